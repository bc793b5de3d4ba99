/-! ===== cell, fault, told ===== -/
noncomputable def cellP (V : Nat → Int) (c z : Int) : Prop := (z = -1 ∧ (c < 0 ∨ szV V ≤ c)) ∨ (z = V (40 + c.toNat) ∧ 0 ≤ c ∧ c < szV V)
noncomputable def fauP (V : Nat → Int) (n : Int) (P : Nat → Int) (h z : Int) : Prop := (z = -2 ∧ h ≠ 0 ∧ h ≠ 1) ∨ (h = 0 ∧ fltL P (szV V) n z) ∨ (h = 1 ∧ fltW P n z)
noncomputable def prsP (V : Nat → Int) (p k z : Int) : Prop := (z = -2 ∧ ((p < 0 ∨ 3 < p) ∨ bt (V 6).toNat p.toNat = 0 ∨ k < 0 ∨ 1 < k)) ∨ (z = V (8 + 4 * p.toNat + 2) ∧ (0 ≤ p ∧ p ≤ 3) ∧ bt (V 6).toNat p.toNat = 1 ∧ k = 0) ∨ (z = V (8 + 4 * p.toNat + 3) ∧ (0 ≤ p ∧ p ≤ 3) ∧ bt (V 6).toNat p.toNat = 1 ∧ k = 1)
noncomputable def toldP (V : Nat → Int) (n t z : Int) : Prop := (z = V (8 + 4 * (t - 10).toNat + 0) ∧ 10 ≤ t ∧ t ≤ 13) ∨ (z = V (8 + 4 * (t - 20).toNat + 1) ∧ 20 ≤ t ∧ t ≤ 23) ∨ (30 ≤ t ∧ prsP V ((t - 30) / 10) ((t - 30) % 10) z) ∨ (z = n ∧ t = 0) ∨ (z = V 0 ∧ t = 1) ∨ (z = V 1 ∧ t = 2) ∨ (z = V 2 ∧ t = 3) ∨ (z = V 4 ∧ t = 4) ∨ (z = V 5 ∧ t = 5) ∨ (z = V 6 ∧ t = 6) ∨ (z = V 7 ∧ t = 7) ∨ (z = cnt (n64 (Int64.ofInt (V 3))) 64 ∧ t = 8) ∨ (z = -2 ∧ (t < 0 ∨ t = 9 ∨ (14 ≤ t ∧ t ≤ 19) ∨ (24 ≤ t ∧ t ≤ 29)))
theorem fltL.uniq {P : Nat → Int} {s n y z : Int} (a : fltL P s n y) (b : fltL P s n z) (hn : 0 ≤ n) : y = z := by
  have key : ∀ {y z : Int}, (0 ≤ y ∧ ¬ okL P s y.toNat) → (∀ j : Nat, (j : Int) < z → okL P s j) → z ≤ y := fun {y z} h g => by
    apply Classical.byContradiction
    intro q
    exact h.2 (g y.toNat (by omega))
  rcases a with ⟨a1, a2, a3⟩ | ⟨a1, a2, a3, a4⟩ | ⟨a1, a2, a3⟩ <;> rcases b with ⟨b1, b2, b3⟩ | ⟨b1, b2, b3, b4⟩ | ⟨b1, b2, b3⟩
  · omega
  · have := key ⟨b1, b4⟩ a3; omega
  · omega
  · have := key ⟨a1, a4⟩ b3; omega
  · have := key ⟨a1, a4⟩ b3; have := key ⟨b1, b4⟩ a3; omega
  · have := key ⟨a1, a4⟩ b3; omega
  · omega
  · have := key ⟨b1, b4⟩ a3; omega
  · omega
theorem fltW.uniq {P : Nat → Int} {n y z : Int} (a : fltW P n y) (b : fltW P n z) (hn : 0 ≤ n) : y = z := by
  have key : ∀ {y z : Int}, (0 ≤ y ∧ ¬ okW P y.toNat) → (∀ j : Nat, (j : Int) < z → okW P j) → z ≤ y := fun {y z} h g => by
    apply Classical.byContradiction
    intro q
    exact h.2 (g y.toNat (by omega))
  rcases a with ⟨a1, a2, a3⟩ | ⟨a1, a2, a3, a4⟩ | ⟨a1, a2, a3⟩ <;> rcases b with ⟨b1, b2, b3⟩ | ⟨b1, b2, b3, b4⟩ | ⟨b1, b2, b3⟩
  · omega
  · have := key ⟨b1, b4⟩ a3; omega
  · omega
  · have := key ⟨a1, a4⟩ b3; omega
  · have := key ⟨a1, a4⟩ b3; have := key ⟨b1, b4⟩ a3; omega
  · have := key ⟨a1, a4⟩ b3; omega
  · omega
  · have := key ⟨b1, b4⟩ a3; omega
  · omega
theorem e_cell {d : Nat} {w : am_W} {V P : Nat → Int} {n : Int} (R : RCs w 3 V) (c : Int32) (I : ab_inv ab_TT ab_sets w) : aw none (d + 3) 65 (fun r w1 => w = w1 ∧ ∃ z : Int32, r = some (.int z) ∧ cellP V c.toInt z.toInt) (0, am_entry 65 [.ref 0, .int c], []) w := by
  have J : ab_J ab_TT ab_sets ab_WR2 w w := ⟨I, ab_fr.rf⟩
  have sz := szC_in I
  have hs := R.sz
  have ta := ab_any32 c
  unfold ab_lo32 ab_hi32 at ta
  show aw none (d + 3) 65 _ (0, [some (.ref 0), some (.int c)], []) w
  refine aw_step (f1 := (1, [some (.ref 0), some (.int c)], [(.ref 0)])) (w1 := w) rfl rfl ?_
  refine s_gr 3 J 4 rfl rfl rfl rfl rfl rfl ?_
  refine aw_step (f1 := (5, [some (.ref 0), some (.int c)], [(.int c), (.ref 3)])) (w1 := w) rfl rfl ?_
  refine s_cv (z := 39) (p := 3) (as := [(.int c)]) (st1 := []) J 8 rfl rfl rfl rfl rfl rfl rfl rfl (Nat.le_of_ble_eq_true rfl) (Nat.le_of_ble_eq_true rfl) (q_hasCell c J.1) ?_
  rintro _ _ ⟨rfl, x1, rfl, x1t⟩
  refine ⟨rfl, ?_⟩
  show aw none _ 65 _ (8, [some (.ref 0), some (.int c)], [(.int x1)]) w
  refine s_if 23 11 rfl rfl rfl (fun (h2 : x1.toInt = 0) => ?_) (fun (h2 : ¬ (x1.toInt = 0)) => ?_)
  · --
    refine s_i (pc1 := 24) (ls1 := [some (.ref 0), some (.int c)]) (st1 := []) rfl rfl fun x3 e4 => ?_
    have e4t : x3.toInt = -1 := by rw [e4]; rfl
    refine aw_ret (v := some (.int x3)) rfl rfl ?_
    first
      | exact ⟨rfl, x3, rfl, Or.inl ⟨by omega, by omega⟩⟩
      | exact ⟨rfl, x3, rfl, Or.inr ⟨by rw [x3v]; exact (R.2.1 c.toInt.toNat (by omega)).1, by omega, by omega⟩⟩
  · --
    refine aw_step (f1 := (12, [some (.ref 0), some (.int c)], [(.ref 0)])) (w1 := w) rfl rfl ?_
    refine s_gr 3 J 15 rfl rfl rfl rfl rfl rfl ?_
    refine s_gr 4 J 18 rfl rfl rfl rfl rfl rfl ?_
    refine aw_step (f1 := (19, [some (.ref 0), some (.int c)], [(.int c), (.ref 4)])) (w1 := w) rfl rfl ?_
    refine s_ia J 20 rfl rfl rfl rfl (by omega) (by omega) fun x5 x5a x5b x5f => ?_
    have x5v : x5.toInt = rI w 4 c.toInt.toNat := by rw [← rI_of x5f]
    refine aw_step (f1 := (24, [some (.ref 0), some (.int c)], [(.int x5)])) (w1 := w) rfl rfl ?_
    refine aw_ret (v := some (.int x5)) rfl rfl ?_
    first
      | exact ⟨rfl, x5, rfl, Or.inl ⟨by omega, by omega⟩⟩
      | exact ⟨rfl, x5, rfl, Or.inr ⟨by rw [x5v]; exact (R.2.1 c.toInt.toNat (by omega)).1, by omega, by omega⟩⟩
theorem f_cell {d : Nat} {w : am_W} {V P : Nat → Int} {n : Int} (R : RMs w V) (c : Int32) (I : ab_inv ab_TT ab_sets w) : aw none (d + 3) 125 (fun r w1 => w = w1 ∧ ∃ z : Int32, r = some (.int z) ∧ cellP V c.toInt z.toInt) (0, am_entry 125 [.ref 65, .int c], []) w := by
  have J : ab_J ab_TT ab_sets ab_WR2 w w := ⟨I, ab_fr.rf⟩
  have sz := szM_in I
  have hs := R.sz
  have ta := ab_any32 c
  unfold ab_lo32 ab_hi32 at ta
  show aw none (d + 3) 125 _ (0, [some (.ref 65), some (.int c)], []) w
  refine aw_step (f1 := (1, [some (.ref 65), some (.int c)], [(.ref 65)])) (w1 := w) rfl rfl ?_
  refine aw_step (f1 := (2, [some (.ref 65), some (.int c)], [(.int c), (.ref 65)])) (w1 := w) rfl rfl ?_
  refine s_cv (z := 114) (p := 65) (as := [(.int c)]) (st1 := []) J 5 rfl rfl rfl rfl rfl rfl rfl rfl (Nat.le_of_ble_eq_true rfl) (Nat.le_of_ble_eq_true rfl) (q_isCell c J.1) ?_
  rintro _ _ ⟨rfl, x1, rfl, x1t⟩
  refine ⟨rfl, ?_⟩
  show aw none _ 125 _ (5, [some (.ref 65), some (.int c)], [(.int x1)]) w
  have x1s := szM_in J.1
  refine s_if 17 8 rfl rfl rfl (fun (h2 : x1.toInt = 0) => ?_) (fun (h2 : ¬ (x1.toInt = 0)) => ?_)
  · --
    refine s_i (pc1 := 18) (ls1 := [some (.ref 65), some (.int c)]) (st1 := []) rfl rfl fun x3 e4 => ?_
    have e4t : x3.toInt = -1 := by rw [e4]; rfl
    refine aw_ret (v := some (.int x3)) rfl rfl ?_
    first
      | exact ⟨rfl, x3, rfl, Or.inl ⟨by omega, by omega⟩⟩
      | exact ⟨rfl, x3, rfl, Or.inr ⟨by rw [x3v]; exact R.rc (by omega), by omega, by omega⟩⟩
  · --
    refine aw_step (f1 := (9, [some (.ref 65), some (.int c)], [(.ref 65)])) (w1 := w) rfl rfl ?_
    refine s_gr 66 J 12 rfl rfl rfl rfl rfl rfl ?_
    refine aw_step (f1 := (13, [some (.ref 65), some (.int c)], [(.int c), (.ref 66)])) (w1 := w) rfl rfl ?_
    refine s_ia J 14 rfl rfl rfl rfl (by omega) (by omega) fun x5 x5a x5b x5f => ?_
    have x5v : x5.toInt = rI w 66 c.toInt.toNat := by rw [← rI_of x5f]
    refine aw_step (f1 := (18, [some (.ref 65), some (.int c)], [(.int x5)])) (w1 := w) rfl rfl ?_
    refine aw_ret (v := some (.int x5)) rfl rfl ?_
    first
      | exact ⟨rfl, x5, rfl, Or.inl ⟨by omega, by omega⟩⟩
      | exact ⟨rfl, x5, rfl, Or.inr ⟨by rw [x5v]; exact R.rc (by omega), by omega, by omega⟩⟩
theorem e_fault {d : Nat} {w : am_W} {V P : Nat → Int} {n : Int} (R : RCs w 3 V) (R0 : RCp w n P) (h : Int32) (I : ab_inv ab_TT ab_sets w) : aw none (d + 4) 63 (fun r w1 => w = w1 ∧ ∃ z : Int32, r = some (.int z) ∧ fauP V n P h.toInt z.toInt) (0, am_entry 63 [.ref 0, .int h], []) w := by
  have J : ab_J ab_TT ab_sets ab_WR2 w w := ⟨I, ab_fr.rf⟩
  have sz := szC_in I
  have hs := R.sz
  have hn := R0.1
  have hP : rI w 2 = P := funext R0.2
  have ta := ab_any32 h
  unfold ab_lo32 ab_hi32 at ta
  show aw none (d + 4) 63 _ (0, [some (.ref 0), some (.int h)], []) w
  refine aw_step (f1 := (1, [some (.ref 0), some (.int h)], [(.int h)])) (w1 := w) rfl rfl ?_
  refine s_i (pc1 := 2) (ls1 := [some (.ref 0), some (.int h)]) (st1 := [(.int h)]) rfl rfl fun x1 e2 => ?_
  have e2t : x1.toInt = 0 := by rw [e2]; rfl
  refine s_i (pc1 := 3) (ls1 := [some (.ref 0), some (.int h)]) (st1 := [(.int x1), (.int h)]) rfl rfl fun x3 e4 => ?_
  have e4t : x3.toInt = 1 := by rw [e4]; rfl
  refine s_cs (z := 102) (as := [(.int h), (.int x1), (.int x3)]) (st1 := []) 6 rfl rfl rfl rfl rfl rfl (Nat.le_of_ble_eq_true rfl) (Nat.le_of_ble_eq_true rfl) (Nat.le_of_ble_eq_true rfl) (q_within h x1 x3) ?_
  rintro _ _ ⟨rfl, x5, rfl, x5t⟩
  refine ⟨rfl, ?_⟩
  show aw none _ 63 _ (6, [some (.ref 0), some (.int h)], [(.int x5)]) w
  refine s_if 12 9 rfl rfl rfl (fun (h6 : ¬ x5.toInt = 0) => ?_) (fun (h6 : ¬ (¬ x5.toInt = 0)) => ?_)
  · --
    refine aw_step (f1 := (13, [some (.ref 0), some (.int h)], [(.int h)])) (w1 := w) rfl rfl ?_
    refine s_if 33 16 rfl rfl rfl (fun (h7 : ¬ h.toInt = 0) => ?_) (fun (h7 : ¬ (¬ h.toInt = 0)) => ?_)
    · --
      refine aw_step (f1 := (34, [some (.ref 0), some (.int h)], [(.ref 0)])) (w1 := w) rfl rfl ?_
      refine s_gr 1 J 37 rfl rfl rfl rfl rfl rfl ?_
      refine s_cv (z := 13) (p := 1) (as := []) (st1 := []) J 40 rfl rfl rfl rfl rfl rfl rfl rfl (Nat.le_of_ble_eq_true rfl) (Nat.le_of_ble_eq_true rfl) (e_faultOfWalk J.1) ?_
      rintro _ _ ⟨rfl, x8, rfl, x8t⟩
      refine ⟨rfl, ?_⟩
      show aw none _ 63 _ (40, [some (.ref 0), some (.int h)], [(.int x8)]) w
      rw [hn, hP] at x8t
      refine aw_ret (v := some (.int x8)) rfl rfl ?_
      first
        | exact ⟨rfl, x8, rfl, Or.inl ⟨by omega, by omega, by omega⟩⟩
        | exact ⟨rfl, x8, rfl, Or.inr (Or.inl ⟨by omega, x8t⟩)⟩
        | exact ⟨rfl, x8, rfl, Or.inr (Or.inr ⟨by omega, x8t⟩)⟩
    · --
      refine aw_step (f1 := (17, [some (.ref 0), some (.int h)], [(.ref 0)])) (w1 := w) rfl rfl ?_
      refine s_gr 1 J 20 rfl rfl rfl rfl rfl rfl ?_
      refine aw_step (f1 := (21, [some (.ref 0), some (.int h)], [(.ref 0), (.ref 1)])) (w1 := w) rfl rfl ?_
      refine s_gr 3 J 24 rfl rfl rfl rfl rfl rfl ?_
      refine s_cv (z := 38) (p := 3) (as := []) (st1 := [(.ref 1)]) J 27 rfl rfl rfl rfl rfl rfl rfl rfl (Nat.le_of_ble_eq_true rfl) (Nat.le_of_ble_eq_true rfl) (q_size J.1) ?_
      rintro _ _ ⟨rfl, x9, rfl, x9t⟩
      refine ⟨rfl, ?_⟩
      show aw none _ 63 _ (27, [some (.ref 0), some (.int h)], [(.int x9), (.ref 1)]) w
      refine s_cv (z := 12) (p := 1) (as := [(.int x9)]) (st1 := []) J 30 rfl rfl rfl rfl rfl rfl rfl rfl (Nat.le_of_ble_eq_true rfl) (Nat.le_of_ble_eq_true rfl) (e_faultOfLand x9 (by omega) J.1) ?_
      rintro _ _ ⟨rfl, x10, rfl, x10t⟩
      refine ⟨rfl, ?_⟩
      show aw none _ 63 _ (30, [some (.ref 0), some (.int h)], [(.int x10)]) w
      rw [x9t, hs, hn, hP] at x10t
      refine aw_step (f1 := (40, [some (.ref 0), some (.int h)], [(.int x10)])) (w1 := w) rfl rfl ?_
      refine aw_ret (v := some (.int x10)) rfl rfl ?_
      first
        | exact ⟨rfl, x10, rfl, Or.inl ⟨by omega, by omega, by omega⟩⟩
        | exact ⟨rfl, x10, rfl, Or.inr (Or.inl ⟨by omega, x10t⟩)⟩
        | exact ⟨rfl, x10, rfl, Or.inr (Or.inr ⟨by omega, x10t⟩)⟩
  · --
    refine s_i (pc1 := 11) (ls1 := [some (.ref 0), some (.int h)]) (st1 := []) rfl rfl fun x11 e12 => ?_
    have e12t : x11.toInt = -2 := by rw [e12]; rfl
    refine aw_ret (v := some (.int x11)) rfl rfl ?_
    first
      | exact ⟨rfl, x11, rfl, Or.inl ⟨by omega, by omega, by omega⟩⟩
      | exact ⟨rfl, x11, rfl, Or.inr (Or.inl ⟨by omega, x11t⟩)⟩
      | exact ⟨rfl, x11, rfl, Or.inr (Or.inr ⟨by omega, x11t⟩)⟩
theorem f_fault {d : Nat} {w : am_W} {V P : Nat → Int} {n : Int} (R : RMs w V) (R0 : RMp w n P) (h : Int32) (I : ab_inv ab_TT ab_sets w) : aw none (d + 4) 123 (fun r w1 => w = w1 ∧ ∃ z : Int32, r = some (.int z) ∧ fauP V n P h.toInt z.toInt) (0, am_entry 123 [.ref 65, .int h], []) w := by
  have J : ab_J ab_TT ab_sets ab_WR2 w w := ⟨I, ab_fr.rf⟩
  have sz := szM_in I
  have hs := R.sz
  have hn := R0.1
  have hP : rI w 73 = P := funext R0.2
  have ta := ab_any32 h
  unfold ab_lo32 ab_hi32 at ta
  show aw none (d + 4) 123 _ (0, [some (.ref 65), some (.int h)], []) w
  refine aw_step (f1 := (1, [some (.ref 65), some (.int h)], [(.int h)])) (w1 := w) rfl rfl ?_
  refine s_if 11 4 rfl rfl rfl (fun (h1 : ¬ h.toInt = 0) => ?_) (fun (h1 : ¬ (¬ h.toInt = 0)) => ?_)
  · --
    refine aw_step (f1 := (12, [some (.ref 65), some (.int h)], [(.int h)])) (w1 := w) rfl rfl ?_
    refine s_i (pc1 := 13) (ls1 := [some (.ref 65), some (.int h)]) (st1 := [(.int h)]) rfl rfl fun x2 e3 => ?_
    have e3t : x2.toInt = 1 := by rw [e3]; rfl
    refine s_ic 23 16 rfl rfl rfl (fun (h4 : ¬ h.toInt = x2.toInt) => ?_) (fun (h4 : ¬ (¬ h.toInt = x2.toInt)) => ?_)
    · --
      refine s_i (pc1 := 25) (ls1 := [some (.ref 65), some (.int h)]) (st1 := []) rfl rfl fun x5 e6 => ?_
      have e6t : x5.toInt = -2 := by rw [e6]; rfl
      refine aw_ret (v := some (.int x5)) rfl rfl ?_
      first
        | exact ⟨rfl, x5, rfl, Or.inl ⟨by omega, by omega, by omega⟩⟩
        | exact ⟨rfl, x5, rfl, Or.inr (Or.inl ⟨by omega, x5t⟩)⟩
        | exact ⟨rfl, x5, rfl, Or.inr (Or.inr ⟨by omega, x5t⟩)⟩
    · --
      refine aw_step (f1 := (17, [some (.ref 65), some (.int h)], [(.ref 65)])) (w1 := w) rfl rfl ?_
      refine s_cv (z := 122) (p := 65) (as := []) (st1 := []) J 20 rfl rfl rfl rfl rfl rfl rfl rfl (Nat.le_of_ble_eq_true rfl) (Nat.le_of_ble_eq_true rfl) (q_faultOfWalk J.1) ?_
      rintro _ _ ⟨rfl, x7, rfl, x7t⟩
      refine ⟨rfl, ?_⟩
      show aw none _ 123 _ (20, [some (.ref 65), some (.int h)], [(.int x7)]) w
      rw [hn, hP] at x7t
      refine aw_step (f1 := (25, [some (.ref 65), some (.int h)], [(.int x7)])) (w1 := w) rfl rfl ?_
      refine aw_ret (v := some (.int x7)) rfl rfl ?_
      first
        | exact ⟨rfl, x7, rfl, Or.inl ⟨by omega, by omega, by omega⟩⟩
        | exact ⟨rfl, x7, rfl, Or.inr (Or.inl ⟨by omega, x7t⟩)⟩
        | exact ⟨rfl, x7, rfl, Or.inr (Or.inr ⟨by omega, x7t⟩)⟩
  · --
    refine aw_step (f1 := (5, [some (.ref 65), some (.int h)], [(.ref 65)])) (w1 := w) rfl rfl ?_
    refine s_cv (z := 121) (p := 65) (as := []) (st1 := []) J 8 rfl rfl rfl rfl rfl rfl rfl rfl (Nat.le_of_ble_eq_true rfl) (Nat.le_of_ble_eq_true rfl) (q_faultOfLand J.1) ?_
    rintro _ _ ⟨rfl, x8, rfl, x8t⟩
    refine ⟨rfl, ?_⟩
    show aw none _ 123 _ (8, [some (.ref 65), some (.int h)], [(.int x8)]) w
    rw [hs, hn, hP] at x8t
    refine aw_step (f1 := (25, [some (.ref 65), some (.int h)], [(.int x8)])) (w1 := w) rfl rfl ?_
    refine aw_ret (v := some (.int x8)) rfl rfl ?_
    first
      | exact ⟨rfl, x8, rfl, Or.inl ⟨by omega, by omega, by omega⟩⟩
      | exact ⟨rfl, x8, rfl, Or.inr (Or.inl ⟨by omega, x8t⟩)⟩
      | exact ⟨rfl, x8, rfl, Or.inr (Or.inr ⟨by omega, x8t⟩)⟩
theorem e_toldOfPerson {d : Nat} {w : am_W} {V P : Nat → Int} {n : Int} (R : RCs w 3 V) (hv6 : 0 ≤ V 6 ∧ V 6 ≤ 15) (p k : Int32) (I : ab_inv ab_TT ab_sets w) : aw none (d + 3) 96 (fun r w1 => w = w1 ∧ ∃ z : Int32, r = some (.int z) ∧ prsP V p.toInt k.toInt z.toInt) (0, am_entry 96 [.ref 0, .int p, .int k], []) w := by
  have J : ab_J ab_TT ab_sets ab_WR2 w w := ⟨I, ab_fr.rf⟩
  have sz := szC_in I
  have hs := R.sz
  have ta := ab_any32 p
  unfold ab_lo32 ab_hi32 at ta
  show aw none (d + 3) 96 _ (0, [some (.ref 0), some (.int p), some (.int k)], []) w
  refine aw_step (f1 := (1, [some (.ref 0), some (.int p), some (.int k)], [(.ref 0)])) (w1 := w) rfl rfl ?_
  refine s_gr 3 J 4 rfl rfl rfl rfl rfl rfl ?_
  refine aw_step (f1 := (5, [some (.ref 0), some (.int p), some (.int k)], [(.int p), (.ref 3)])) (w1 := w) rfl rfl ?_
  refine s_cv (z := 41) (p := 3) (as := [(.int p)]) (st1 := []) J 8 rfl rfl rfl rfl rfl rfl rfl rfl (Nat.le_of_ble_eq_true rfl) (Nat.le_of_ble_eq_true rfl) (q_isThere R hv6 p J.1) ?_
  rintro _ _ ⟨rfl, x1, rfl, x1t⟩
  refine ⟨rfl, ?_⟩
  show aw none _ 96 _ (8, [some (.ref 0), some (.int p), some (.int k)], [(.int x1)]) w
  refine s_if 20 11 rfl rfl rfl (fun (h2 : x1.toInt = 0) => ?_) (fun (h2 : ¬ (x1.toInt = 0)) => ?_)
  · --
    refine s_i (pc1 := 22) (ls1 := [some (.ref 0), some (.int p), some (.int k)]) (st1 := []) rfl rfl fun x3 e4 => ?_
    have e4t : x3.toInt = -2 := by rw [e4]; rfl
    refine aw_ret (v := some (.int x3)) rfl rfl ?_
    first
      | exact ⟨rfl, x3, rfl, Or.inl ⟨by omega, by omega⟩⟩
      | exact ⟨rfl, x3, rfl, Or.inr (Or.inl ⟨by rw [x3v]; exact R.rv (r := 7) (i := p.toInt.toNat) (by decide) (by decide) (by omega) (by show p.toInt.toNat < 4; omega), ⟨by omega, by omega⟩, by omega, by omega⟩)⟩
      | exact ⟨rfl, x3, rfl, Or.inr (Or.inr ⟨by rw [x3v]; exact R.rv (r := 8) (i := p.toInt.toNat) (by decide) (by decide) (by omega) (by show p.toInt.toNat < 4; omega), ⟨by omega, by omega⟩, by omega, by omega⟩)⟩
  · --
    refine aw_step (f1 := (12, [some (.ref 0), some (.int p), some (.int k)], [(.int k)])) (w1 := w) rfl rfl ?_
    refine s_i (pc1 := 13) (ls1 := [some (.ref 0), some (.int p), some (.int k)]) (st1 := [(.int k)]) rfl rfl fun x5 e6 => ?_
    have e6t : x5.toInt = 0 := by rw [e6]; rfl
    refine s_i (pc1 := 14) (ls1 := [some (.ref 0), some (.int p), some (.int k)]) (st1 := [(.int x5), (.int k)]) rfl rfl fun x7 e8 => ?_
    have e8t : x7.toInt = 1 := by rw [e8]; rfl
    refine s_cs (z := 102) (as := [(.int k), (.int x5), (.int x7)]) (st1 := []) 17 rfl rfl rfl rfl rfl rfl (Nat.le_of_ble_eq_true rfl) (Nat.le_of_ble_eq_true rfl) (Nat.le_of_ble_eq_true rfl) (q_within k x5 x7) ?_
    rintro _ _ ⟨rfl, x9, rfl, x9t⟩
    refine ⟨rfl, ?_⟩
    show aw none _ 96 _ (17, [some (.ref 0), some (.int p), some (.int k)], [(.int x9)]) w
    refine s_if 23 20 rfl rfl rfl (fun (h10 : ¬ x9.toInt = 0) => ?_) (fun (h10 : ¬ (¬ x9.toInt = 0)) => ?_)
    · --
      refine aw_step (f1 := (24, [some (.ref 0), some (.int p), some (.int k)], [(.int k)])) (w1 := w) rfl rfl ?_
      refine s_if 39 27 rfl rfl rfl (fun (h11 : ¬ k.toInt = 0) => ?_) (fun (h11 : ¬ (¬ k.toInt = 0)) => ?_)
      · --
        refine aw_step (f1 := (40, [some (.ref 0), some (.int p), some (.int k)], [(.ref 0)])) (w1 := w) rfl rfl ?_
        refine s_gr 3 J 43 rfl rfl rfl rfl rfl rfl ?_
        refine s_gr 11 J 46 rfl rfl rfl rfl rfl rfl ?_
        refine aw_step (f1 := (47, [some (.ref 0), some (.int p), some (.int k)], [(.int p), (.ref 11)])) (w1 := w) rfl rfl ?_
        refine s_ia J 48 rfl rfl rfl rfl (by omega) (by omega) fun x12 x12a x12b x12f => ?_
        have x12v : x12.toInt = rI w 11 p.toInt.toNat := by rw [← rI_of x12f]
        refine aw_ret (v := some (.int x12)) rfl rfl ?_
        first
          | exact ⟨rfl, x12, rfl, Or.inl ⟨by omega, by omega⟩⟩
          | exact ⟨rfl, x12, rfl, Or.inr (Or.inl ⟨by rw [x12v]; exact R.rv (r := 7) (i := p.toInt.toNat) (by decide) (by decide) (by omega) (by show p.toInt.toNat < 4; omega), ⟨by omega, by omega⟩, by omega, by omega⟩)⟩
          | exact ⟨rfl, x12, rfl, Or.inr (Or.inr ⟨by rw [x12v]; exact R.rv (r := 8) (i := p.toInt.toNat) (by decide) (by decide) (by omega) (by show p.toInt.toNat < 4; omega), ⟨by omega, by omega⟩, by omega, by omega⟩)⟩
      · --
        refine aw_step (f1 := (28, [some (.ref 0), some (.int p), some (.int k)], [(.ref 0)])) (w1 := w) rfl rfl ?_
        refine s_gr 3 J 31 rfl rfl rfl rfl rfl rfl ?_
        refine s_gr 10 J 34 rfl rfl rfl rfl rfl rfl ?_
        refine aw_step (f1 := (35, [some (.ref 0), some (.int p), some (.int k)], [(.int p), (.ref 10)])) (w1 := w) rfl rfl ?_
        refine s_ia J 36 rfl rfl rfl rfl (by omega) (by omega) fun x13 x13a x13b x13f => ?_
        have x13v : x13.toInt = rI w 10 p.toInt.toNat := by rw [← rI_of x13f]
        refine aw_step (f1 := (48, [some (.ref 0), some (.int p), some (.int k)], [(.int x13)])) (w1 := w) rfl rfl ?_
        refine aw_ret (v := some (.int x13)) rfl rfl ?_
        first
          | exact ⟨rfl, x13, rfl, Or.inl ⟨by omega, by omega⟩⟩
          | exact ⟨rfl, x13, rfl, Or.inr (Or.inl ⟨by rw [x13v]; exact R.rv (r := 7) (i := p.toInt.toNat) (by decide) (by decide) (by omega) (by show p.toInt.toNat < 4; omega), ⟨by omega, by omega⟩, by omega, by omega⟩)⟩
          | exact ⟨rfl, x13, rfl, Or.inr (Or.inr ⟨by rw [x13v]; exact R.rv (r := 8) (i := p.toInt.toNat) (by decide) (by decide) (by omega) (by show p.toInt.toNat < 4; omega), ⟨by omega, by omega⟩, by omega, by omega⟩)⟩
    · --
      refine s_i (pc1 := 22) (ls1 := [some (.ref 0), some (.int p), some (.int k)]) (st1 := []) rfl rfl fun x14 e15 => ?_
      have e15t : x14.toInt = -2 := by rw [e15]; rfl
      refine aw_ret (v := some (.int x14)) rfl rfl ?_
      first
        | exact ⟨rfl, x14, rfl, Or.inl ⟨by omega, by omega⟩⟩
        | exact ⟨rfl, x14, rfl, Or.inr (Or.inl ⟨by rw [x14v]; exact R.rv (r := 7) (i := p.toInt.toNat) (by decide) (by decide) (by omega) (by show p.toInt.toNat < 4; omega), ⟨by omega, by omega⟩, by omega, by omega⟩)⟩
        | exact ⟨rfl, x14, rfl, Or.inr (Or.inr ⟨by rw [x14v]; exact R.rv (r := 8) (i := p.toInt.toNat) (by decide) (by decide) (by omega) (by show p.toInt.toNat < 4; omega), ⟨by omega, by omega⟩, by omega, by omega⟩)⟩
theorem f_toldOfPerson {d : Nat} {w : am_W} {V P : Nat → Int} {n : Int} (R : RMs w V) (hv6 : 0 ≤ V 6 ∧ V 6 ≤ 15) (p k : Int32) (I : ab_inv ab_TT ab_sets w) : aw none (d + 3) 185 (fun r w1 => w = w1 ∧ ∃ z : Int32, r = some (.int z) ∧ prsP V p.toInt k.toInt z.toInt) (0, am_entry 185 [.ref 65, .int p, .int k], []) w := by
  have J : ab_J ab_TT ab_sets ab_WR2 w w := ⟨I, ab_fr.rf⟩
  have sz := szM_in I
  have hs := R.sz
  have r6 := R.f6
  have ta := ab_any32 p
  unfold ab_lo32 ab_hi32 at ta
  show aw none (d + 3) 185 _ (0, [some (.ref 65), some (.int p), some (.int k)], []) w
  refine aw_step (f1 := (1, [some (.ref 65), some (.int p), some (.int k)], [(.ref 65)])) (w1 := w) rfl rfl ?_
  refine aw_step (f1 := (2, [some (.ref 65), some (.int p), some (.int k)], [(.int p), (.ref 65)])) (w1 := w) rfl rfl ?_
  refine s_cv (z := 156) (p := 65) (as := [(.int p)]) (st1 := []) J 5 rfl rfl rfl rfl rfl rfl rfl rfl (Nat.le_of_ble_eq_true rfl) (Nat.le_of_ble_eq_true rfl) (q_isPerson p) ?_
  rintro _ _ ⟨rfl, x1, rfl, x1t⟩
  refine ⟨rfl, ?_⟩
  show aw none _ 185 _ (5, [some (.ref 65), some (.int p), some (.int k)], [(.int x1)]) w
  refine s_if 19 8 rfl rfl rfl (fun (h2 : x1.toInt = 0) => ?_) (fun (h2 : ¬ (x1.toInt = 0)) => ?_)
  · --
    refine s_i (pc1 := 21) (ls1 := [some (.ref 65), some (.int p), some (.int k)]) (st1 := []) rfl rfl fun x3 e4 => ?_
    have e4t : x3.toInt = -2 := by rw [e4]; rfl
    refine aw_ret (v := some (.int x3)) rfl rfl ?_
    first
      | exact ⟨rfl, x3, rfl, Or.inl ⟨by omega, by omega⟩⟩
      | exact ⟨rfl, x3, rfl, Or.inr (Or.inl ⟨by rw [x3v]; exact R.ra (i := p.toInt.toNat) (c := 2) (by omega) (by decide), ⟨by omega, by omega⟩, by omega, by omega⟩)⟩
      | exact ⟨rfl, x3, rfl, Or.inr (Or.inr ⟨by rw [x3v]; exact R.ra (i := p.toInt.toNat) (c := 3) (by omega) (by decide), ⟨by omega, by omega⟩, by omega, by omega⟩)⟩
  · --
    refine aw_step (f1 := (9, [some (.ref 65), some (.int p), some (.int k)], [(.ref 65)])) (w1 := w) rfl rfl ?_
    refine s_gi J 12 rfl rfl rfl rfl rfl rfl fun x5 x5a x5b x5f => ?_
    have x5v : x5.toInt = fI w 65 9 := by rw [← fI_of x5f]
    refine aw_step (f1 := (13, [some (.ref 65), some (.int p), some (.int k)], [(.int p), (.int x5)])) (w1 := w) rfl rfl ?_
    --
    refine s_i (pc1 := 14) (ls1 := [some (.ref 65), some (.int p), some (.int k)]) (st1 := []) rfl rfl fun x6 e7 => ?_
    have e7 : x6 = x5 >>> (p &&& 31) := e7
    refine s_i (pc1 := 15) (ls1 := [some (.ref 65), some (.int p), some (.int k)]) (st1 := [(.int x6)]) rfl rfl fun x8 e9 => ?_
    have e9t : x8.toInt = 1 := by rw [e9]; rfl
    --
    refine s_i (pc1 := 16) (ls1 := [some (.ref 65), some (.int p), some (.int k)]) (st1 := []) rfl rfl fun x10 e11 => ?_
    have e11 : x10 = x6 &&& x8 := e11
    have hb : x10.toInt = bt (V 6).toNat p.toInt.toNat := by
      have hq := (i_po (x := x5) (p := p) (by omega) (by omega) (by omega) (by omega)).2.2.1
      rw [show V 6 = x5.toInt by omega, ← hq, e11, e7, show x8 = 1 from n_1 (by omega)]
    have hle := bt_le (V 6).toNat p.toInt.toNat
    refine s_if 22 19 rfl rfl rfl (fun (h12 : ¬ x10.toInt = 0) => ?_) (fun (h12 : ¬ (¬ x10.toInt = 0)) => ?_)
    · --
      refine aw_step (f1 := (23, [some (.ref 65), some (.int p), some (.int k)], [(.int k)])) (w1 := w) rfl rfl ?_
      refine s_if 35 26 rfl rfl rfl (fun (h13 : ¬ k.toInt = 0) => ?_) (fun (h13 : ¬ (¬ k.toInt = 0)) => ?_)
      · --
        refine aw_step (f1 := (36, [some (.ref 65), some (.int p), some (.int k)], [(.int k)])) (w1 := w) rfl rfl ?_
        refine s_i (pc1 := 37) (ls1 := [some (.ref 65), some (.int p), some (.int k)]) (st1 := [(.int k)]) rfl rfl fun x14 e15 => ?_
        have e15t : x14.toInt = 1 := by rw [e15]; rfl
        refine s_ic 49 40 rfl rfl rfl (fun (h16 : ¬ k.toInt = x14.toInt) => ?_) (fun (h16 : ¬ (¬ k.toInt = x14.toInt)) => ?_)
        · --
          refine s_i (pc1 := 51) (ls1 := [some (.ref 65), some (.int p), some (.int k)]) (st1 := []) rfl rfl fun x17 e18 => ?_
          have e18t : x17.toInt = -2 := by rw [e18]; rfl
          refine aw_ret (v := some (.int x17)) rfl rfl ?_
          first
            | exact ⟨rfl, x17, rfl, Or.inl ⟨by omega, by omega⟩⟩
            | exact ⟨rfl, x17, rfl, Or.inr (Or.inl ⟨by rw [x17v]; exact R.ra (i := p.toInt.toNat) (c := 2) (by omega) (by decide), ⟨by omega, by omega⟩, by omega, by omega⟩)⟩
            | exact ⟨rfl, x17, rfl, Or.inr (Or.inr ⟨by rw [x17v]; exact R.ra (i := p.toInt.toNat) (c := 3) (by omega) (by decide), ⟨by omega, by omega⟩, by omega, by omega⟩)⟩
        · --
          refine aw_step (f1 := (41, [some (.ref 65), some (.int p), some (.int k)], [(.ref 65)])) (w1 := w) rfl rfl ?_
          refine s_gr 70 J 44 rfl rfl rfl rfl rfl rfl ?_
          refine aw_step (f1 := (45, [some (.ref 65), some (.int p), some (.int k)], [(.int p), (.ref 70)])) (w1 := w) rfl rfl ?_
          refine s_ia J 46 rfl rfl rfl rfl (by omega) (by omega) fun x19 x19a x19b x19f => ?_
          have x19v : x19.toInt = rI w 70 p.toInt.toNat := by rw [← rI_of x19f]
          refine aw_step (f1 := (51, [some (.ref 65), some (.int p), some (.int k)], [(.int x19)])) (w1 := w) rfl rfl ?_
          refine aw_ret (v := some (.int x19)) rfl rfl ?_
          first
            | exact ⟨rfl, x19, rfl, Or.inl ⟨by omega, by omega⟩⟩
            | exact ⟨rfl, x19, rfl, Or.inr (Or.inl ⟨by rw [x19v]; exact R.ra (i := p.toInt.toNat) (c := 2) (by omega) (by decide), ⟨by omega, by omega⟩, by omega, by omega⟩)⟩
            | exact ⟨rfl, x19, rfl, Or.inr (Or.inr ⟨by rw [x19v]; exact R.ra (i := p.toInt.toNat) (c := 3) (by omega) (by decide), ⟨by omega, by omega⟩, by omega, by omega⟩)⟩
      · --
        refine aw_step (f1 := (27, [some (.ref 65), some (.int p), some (.int k)], [(.ref 65)])) (w1 := w) rfl rfl ?_
        refine s_gr 69 J 30 rfl rfl rfl rfl rfl rfl ?_
        refine aw_step (f1 := (31, [some (.ref 65), some (.int p), some (.int k)], [(.int p), (.ref 69)])) (w1 := w) rfl rfl ?_
        refine s_ia J 32 rfl rfl rfl rfl (by omega) (by omega) fun x20 x20a x20b x20f => ?_
        have x20v : x20.toInt = rI w 69 p.toInt.toNat := by rw [← rI_of x20f]
        refine aw_step (f1 := (51, [some (.ref 65), some (.int p), some (.int k)], [(.int x20)])) (w1 := w) rfl rfl ?_
        refine aw_ret (v := some (.int x20)) rfl rfl ?_
        first
          | exact ⟨rfl, x20, rfl, Or.inl ⟨by omega, by omega⟩⟩
          | exact ⟨rfl, x20, rfl, Or.inr (Or.inl ⟨by rw [x20v]; exact R.ra (i := p.toInt.toNat) (c := 2) (by omega) (by decide), ⟨by omega, by omega⟩, by omega, by omega⟩)⟩
          | exact ⟨rfl, x20, rfl, Or.inr (Or.inr ⟨by rw [x20v]; exact R.ra (i := p.toInt.toNat) (c := 3) (by omega) (by decide), ⟨by omega, by omega⟩, by omega, by omega⟩)⟩
    · --
      refine s_i (pc1 := 21) (ls1 := [some (.ref 65), some (.int p), some (.int k)]) (st1 := []) rfl rfl fun x21 e22 => ?_
      have e22t : x21.toInt = -2 := by rw [e22]; rfl
      refine aw_ret (v := some (.int x21)) rfl rfl ?_
      first
        | exact ⟨rfl, x21, rfl, Or.inl ⟨by omega, by omega⟩⟩
        | exact ⟨rfl, x21, rfl, Or.inr (Or.inl ⟨by rw [x21v]; exact R.ra (i := p.toInt.toNat) (c := 2) (by omega) (by decide), ⟨by omega, by omega⟩, by omega, by omega⟩)⟩
        | exact ⟨rfl, x21, rfl, Or.inr (Or.inr ⟨by rw [x21v]; exact R.ra (i := p.toInt.toNat) (c := 3) (by omega) (by decide), ⟨by omega, by omega⟩, by omega, by omega⟩)⟩
theorem e_told {d : Nat} {w : am_W} {V P : Nat → Int} {n : Int} (R : RCs w 3 V) (R0 : RCp w n P) (hv6 : 0 ≤ V 6 ∧ V 6 ≤ 15) (t : Int32) (I : ab_inv ab_TT ab_sets w) : aw none (d + 4) 95 (fun r w1 => w = w1 ∧ ∃ z : Int32, r = some (.int z) ∧ toldP V n t.toInt z.toInt) (0, am_entry 95 [.ref 0, .int t], []) w := by
  have J : ab_J ab_TT ab_sets ab_WR2 w w := ⟨I, ab_fr.rf⟩
  have sz := szC_in I
  have hs := R.sz
  have hn := R0.1
  have r0 := R.f0
  have r1 := R.f1
  have r2 := R.f2
  have r3 := R.f3
  have r4 := R.f4
  have ta := ab_any32 t
  unfold ab_lo32 ab_hi32 at ta
  show aw none (d + 4) 95 _ (0, [some (.ref 0), some (.int t)], []) w
  refine aw_step (f1 := (1, [some (.ref 0), some (.int t)], [(.int t)])) (w1 := w) rfl rfl ?_
  refine s_i (pc1 := 3) (ls1 := [some (.ref 0), some (.int t)]) (st1 := [(.int t)]) rfl rfl fun x1 e2 => ?_
  have e2t : x1.toInt = 10 := by rw [e2]; rfl
  refine s_i (pc1 := 5) (ls1 := [some (.ref 0), some (.int t)]) (st1 := [(.int x1), (.int t)]) rfl rfl fun x3 e4 => ?_
  have e4t : x3.toInt = 13 := by rw [e4]; rfl
  refine s_cs (z := 102) (as := [(.int t), (.int x1), (.int x3)]) (st1 := []) 8 rfl rfl rfl rfl rfl rfl (Nat.le_of_ble_eq_true rfl) (Nat.le_of_ble_eq_true rfl) (Nat.le_of_ble_eq_true rfl) (q_within t x1 x3) ?_
  rintro _ _ ⟨rfl, x5, rfl, x5t⟩
  refine ⟨rfl, ?_⟩
  show aw none _ 95 _ (8, [some (.ref 0), some (.int t)], [(.int x5)]) w
  refine s_if 24 11 rfl rfl rfl (fun (h6 : x5.toInt = 0) => ?_) (fun (h6 : ¬ (x5.toInt = 0)) => ?_)
  · --
    refine aw_step (f1 := (25, [some (.ref 0), some (.int t)], [(.int t)])) (w1 := w) rfl rfl ?_
    refine s_i (pc1 := 27) (ls1 := [some (.ref 0), some (.int t)]) (st1 := [(.int t)]) rfl rfl fun x7 e8 => ?_
    have e8t : x7.toInt = 20 := by rw [e8]; rfl
    refine s_i (pc1 := 29) (ls1 := [some (.ref 0), some (.int t)]) (st1 := [(.int x7), (.int t)]) rfl rfl fun x9 e10 => ?_
    have e10t : x9.toInt = 23 := by rw [e10]; rfl
    refine s_cs (z := 102) (as := [(.int t), (.int x7), (.int x9)]) (st1 := []) 32 rfl rfl rfl rfl rfl rfl (Nat.le_of_ble_eq_true rfl) (Nat.le_of_ble_eq_true rfl) (Nat.le_of_ble_eq_true rfl) (q_within t x7 x9) ?_
    rintro _ _ ⟨rfl, x11, rfl, x11t⟩
    refine ⟨rfl, ?_⟩
    show aw none _ 95 _ (32, [some (.ref 0), some (.int t)], [(.int x11)]) w
    refine s_if 48 35 rfl rfl rfl (fun (h12 : x11.toInt = 0) => ?_) (fun (h12 : ¬ (x11.toInt = 0)) => ?_)
    · --
      refine aw_step (f1 := (49, [some (.ref 0), some (.int t)], [(.int t)])) (w1 := w) rfl rfl ?_
      refine s_i (pc1 := 51) (ls1 := [some (.ref 0), some (.int t)]) (st1 := [(.int t)]) rfl rfl fun x13 e14 => ?_
      have e14t : x13.toInt = 30 := by rw [e14]; rfl
      refine s_ic 73 54 rfl rfl rfl (fun (h15 : t.toInt < x13.toInt) => ?_) (fun (h15 : ¬ (t.toInt < x13.toInt)) => ?_)
      · --
        refine aw_step (f1 := (74, [some (.ref 0), some (.int t)], [(.int t)])) (w1 := w) rfl rfl ?_
        rcases (show (t.toInt < 0 ∨ 8 < t.toInt) ∨ t.toInt = 0 ∨ t.toInt = 1 ∨ t.toInt = 2 ∨ t.toInt = 3 ∨ t.toInt = 4 ∨ t.toInt = 5 ∨ t.toInt = 6 ∨ t.toInt = 7 ∨ t.toInt = 8 from by omega) with h16 | h16 | h16 | h16 | h16 | h16 | h16 | h16 | h16 | h16
        · refine s_swd 203 rfl rfl h16 ?_
          refine s_i (pc1 := 205) (ls1 := [some (.ref 0), some (.int t)]) (st1 := []) rfl rfl fun x17 e18 => ?_
          have e18t : x17.toInt = -2 := by rw [e18]; rfl
          --
          refine aw_ret (v := some (.int x17)) rfl rfl ?_
          exact ⟨rfl, x17, rfl, Or.inr (Or.inr (Or.inr (Or.inr (Or.inr (Or.inr (Or.inr (Or.inr (Or.inr (Or.inr (Or.inr (Or.inr (⟨by omega, by omega⟩))))))))))))⟩
        · refine s_swj (j := 0) 124 rfl (by omega) (by omega) (by omega) rfl rfl ?_
          refine aw_step (f1 := (125, [some (.ref 0), some (.int t)], [(.ref 0)])) (w1 := w) rfl rfl ?_
          refine s_gr 1 J 128 rfl rfl rfl rfl rfl rfl ?_
          refine s_gi J 131 rfl rfl rfl rfl rfl rfl fun x19 x19a x19b x19f => ?_
          have x19v : x19.toInt = fI w 1 1 := by rw [← fI_of x19f]
          --
          refine aw_ret (v := some (.int x19)) rfl rfl ?_
          exact ⟨rfl, x19, rfl, Or.inr (Or.inr (Or.inr (Or.inl ⟨by omega, by omega⟩)))⟩
        · refine s_swj (j := 1) 132 rfl (by omega) (by omega) (by omega) rfl rfl ?_
          refine aw_step (f1 := (133, [some (.ref 0), some (.int t)], [(.ref 0)])) (w1 := w) rfl rfl ?_
          refine s_gr 3 J 136 rfl rfl rfl rfl rfl rfl ?_
          refine s_gi J 139 rfl rfl rfl rfl rfl rfl fun x20 x20a x20b x20f => ?_
          have x20v : x20.toInt = fI w 3 0 := by rw [← fI_of x20f]
          --
          refine aw_ret (v := some (.int x20)) rfl rfl ?_
          exact ⟨rfl, x20, rfl, Or.inr (Or.inr (Or.inr (Or.inr (Or.inl ⟨by omega, by omega⟩))))⟩
        · refine s_swj (j := 2) 140 rfl (by omega) (by omega) (by omega) rfl rfl ?_
          refine aw_step (f1 := (141, [some (.ref 0), some (.int t)], [(.ref 0)])) (w1 := w) rfl rfl ?_
          refine s_gr 3 J 144 rfl rfl rfl rfl rfl rfl ?_
          refine s_gi J 147 rfl rfl rfl rfl rfl rfl fun x21 x21a x21b x21f => ?_
          have x21v : x21.toInt = fI w 3 1 := by rw [← fI_of x21f]
          --
          refine aw_ret (v := some (.int x21)) rfl rfl ?_
          exact ⟨rfl, x21, rfl, Or.inr (Or.inr (Or.inr (Or.inr (Or.inr (Or.inl ⟨by omega, by omega⟩)))))⟩
        · refine s_swj (j := 3) 148 rfl (by omega) (by omega) (by omega) rfl rfl ?_
          refine aw_step (f1 := (149, [some (.ref 0), some (.int t)], [(.ref 0)])) (w1 := w) rfl rfl ?_
          refine s_gr 3 J 152 rfl rfl rfl rfl rfl rfl ?_
          refine s_gi J 155 rfl rfl rfl rfl rfl rfl fun x22 x22a x22b x22f => ?_
          have x22v : x22.toInt = fI w 3 2 := by rw [← fI_of x22f]
          --
          refine aw_ret (v := some (.int x22)) rfl rfl ?_
          exact ⟨rfl, x22, rfl, Or.inr (Or.inr (Or.inr (Or.inr (Or.inr (Or.inr (Or.inl ⟨by omega, by omega⟩))))))⟩
        · refine s_swj (j := 4) 156 rfl (by omega) (by omega) (by omega) rfl rfl ?_
          refine aw_step (f1 := (157, [some (.ref 0), some (.int t)], [(.ref 0)])) (w1 := w) rfl rfl ?_
          refine s_gr 3 J 160 rfl rfl rfl rfl rfl rfl ?_
          refine s_gr 9 J 163 rfl rfl rfl rfl rfl rfl ?_
          refine s_i (pc1 := 164) (ls1 := [some (.ref 0), some (.int t)]) (st1 := [(.ref 9)]) rfl rfl fun x23 e24 => ?_
          have e24t : x23.toInt = 0 := by rw [e24]; rfl
          --
          refine s_ia J 165 rfl rfl rfl rfl (by omega) (by omega) fun x25 x25a x25b x25f => ?_
          have x25v : x25.toInt = rI w 9 x23.toInt.toNat := by rw [← rI_of x25f]
          --
          refine aw_ret (v := some (.int x25)) rfl rfl ?_
          exact ⟨rfl, x25, rfl, Or.inr (Or.inr (Or.inr (Or.inr (Or.inr (Or.inr (Or.inr (Or.inl ⟨by rw [x25v, show x23.toInt.toNat = 0 by omega]; exact R.rv (r := 6) (i := 0) (by decide) (by decide) (by decide) (by decide), by omega⟩)))))))⟩
        · refine s_swj (j := 5) 166 rfl (by omega) (by omega) (by omega) rfl rfl ?_
          refine aw_step (f1 := (167, [some (.ref 0), some (.int t)], [(.ref 0)])) (w1 := w) rfl rfl ?_
          refine s_gr 3 J 170 rfl rfl rfl rfl rfl rfl ?_
          refine s_gr 9 J 173 rfl rfl rfl rfl rfl rfl ?_
          refine s_i (pc1 := 174) (ls1 := [some (.ref 0), some (.int t)]) (st1 := [(.ref 9)]) rfl rfl fun x26 e27 => ?_
          have e27t : x26.toInt = 1 := by rw [e27]; rfl
          --
          refine s_ia J 175 rfl rfl rfl rfl (by omega) (by omega) fun x28 x28a x28b x28f => ?_
          have x28v : x28.toInt = rI w 9 x26.toInt.toNat := by rw [← rI_of x28f]
          --
          refine aw_ret (v := some (.int x28)) rfl rfl ?_
          exact ⟨rfl, x28, rfl, Or.inr (Or.inr (Or.inr (Or.inr (Or.inr (Or.inr (Or.inr (Or.inr (Or.inl ⟨by rw [x28v, show x26.toInt.toNat = 1 by omega]; exact R.rv (r := 6) (i := 1) (by decide) (by decide) (by decide) (by decide), by omega⟩))))))))⟩
        · refine s_swj (j := 6) 176 rfl (by omega) (by omega) (by omega) rfl rfl ?_
          refine aw_step (f1 := (177, [some (.ref 0), some (.int t)], [(.ref 0)])) (w1 := w) rfl rfl ?_
          refine s_gr 3 J 180 rfl rfl rfl rfl rfl rfl ?_
          refine s_gi J 183 rfl rfl rfl rfl rfl rfl fun x29 x29a x29b x29f => ?_
          have x29v : x29.toInt = fI w 3 3 := by rw [← fI_of x29f]
          --
          refine aw_ret (v := some (.int x29)) rfl rfl ?_
          exact ⟨rfl, x29, rfl, Or.inr (Or.inr (Or.inr (Or.inr (Or.inr (Or.inr (Or.inr (Or.inr (Or.inr (Or.inl ⟨by omega, by omega⟩)))))))))⟩
        · refine s_swj (j := 7) 184 rfl (by omega) (by omega) (by omega) rfl rfl ?_
          refine aw_step (f1 := (185, [some (.ref 0), some (.int t)], [(.ref 0)])) (w1 := w) rfl rfl ?_
          refine s_gr 3 J 188 rfl rfl rfl rfl rfl rfl ?_
          refine s_gi J 191 rfl rfl rfl rfl rfl rfl fun x30 x30a x30b x30f => ?_
          have x30v : x30.toInt = fI w 3 4 := by rw [← fI_of x30f]
          --
          refine aw_ret (v := some (.int x30)) rfl rfl ?_
          exact ⟨rfl, x30, rfl, Or.inr (Or.inr (Or.inr (Or.inr (Or.inr (Or.inr (Or.inr (Or.inr (Or.inr (Or.inr (Or.inl ⟨by omega, by omega⟩))))))))))⟩
        · refine s_swj (j := 8) 192 rfl (by omega) (by omega) (by omega) rfl rfl ?_
          refine aw_step (f1 := (193, [some (.ref 0), some (.int t)], [(.ref 0)])) (w1 := w) rfl rfl ?_
          refine s_gr 3 J 196 rfl rfl rfl rfl rfl rfl ?_
          refine s_gl J 199 rfl rfl rfl rfl rfl rfl fun y31 y31a y31b y31f => ?_
          --
          refine s_cs (z := 188) (as := [(.long y31)]) (st1 := []) 202 rfl rfl rfl rfl rfl rfl (Nat.le_of_ble_eq_true rfl) (Nat.le_of_ble_eq_true rfl) (Nat.le_of_ble_eq_true rfl) (q_bc64 y31) ?_
          rintro _ _ ⟨rfl, x32, rfl, x32t⟩
          refine ⟨rfl, ?_⟩
          show aw none _ 95 _ (202, [some (.ref 0), some (.int t)], [(.int x32)]) w
          --
          refine aw_ret (v := some (.int x32)) rfl rfl ?_
          exact ⟨rfl, x32, rfl, Or.inr (Or.inr (Or.inr (Or.inr (Or.inr (Or.inr (Or.inr (Or.inr (Or.inr (Or.inr (Or.inr (Or.inl ⟨by rw [x32t, show Int64.ofInt (V 3) = y31 from by rw [← R.f6, fLi_of y31f]; exact Int64.ofInt_toInt _], by omega⟩)))))))))))⟩
      · --
        refine aw_step (f1 := (55, [some (.ref 0), some (.int t)], [(.ref 0)])) (w1 := w) rfl rfl ?_
        refine aw_step (f1 := (56, [some (.ref 0), some (.int t)], [(.int t), (.ref 0)])) (w1 := w) rfl rfl ?_
        refine s_i (pc1 := 58) (ls1 := [some (.ref 0), some (.int t)]) (st1 := [(.int t), (.ref 0)]) rfl rfl fun x33 e34 => ?_
        have e34t : x33.toInt = 30 := by rw [e34]; rfl
        refine s_i (pc1 := 59) (ls1 := [some (.ref 0), some (.int t)]) (st1 := [(.ref 0)]) rfl rfl fun x35 e36 => ?_
        have e36 : x35 = t - x33 := e36
        have e36t : x35.toInt = t.toInt - x33.toInt := by rw [e36]; exact n_sub (by omega) (by omega)
        refine s_i (pc1 := 61) (ls1 := [some (.ref 0), some (.int t)]) (st1 := [(.int x35), (.ref 0)]) rfl rfl fun x37 e38 => ?_
        have e38t : x37.toInt = 10 := by rw [e38]; rfl
        refine s_dv (f := fun x y => x / y) 62 rfl rfl (by omega) fun x39 e40 => ?_
        have e40 : x39 = x35 / x37 := e40
        have e40t : x39.toInt = x35.toInt / x37.toInt := by rw [e40]; exact n_div (by omega) (by omega)
        rw [e38t] at e40t
        refine aw_step (f1 := (63, [some (.ref 0), some (.int t)], [(.int t), (.int x39), (.ref 0)])) (w1 := w) rfl rfl ?_
        refine s_i (pc1 := 65) (ls1 := [some (.ref 0), some (.int t)]) (st1 := [(.int t), (.int x39), (.ref 0)]) rfl rfl fun x41 e42 => ?_
        have e42t : x41.toInt = 30 := by rw [e42]; rfl
        refine s_i (pc1 := 66) (ls1 := [some (.ref 0), some (.int t)]) (st1 := [(.int x39), (.ref 0)]) rfl rfl fun x43 e44 => ?_
        have e44 : x43 = t - x41 := e44
        have e44t : x43.toInt = t.toInt - x41.toInt := by rw [e44]; exact n_sub (by omega) (by omega)
        refine s_i (pc1 := 68) (ls1 := [some (.ref 0), some (.int t)]) (st1 := [(.int x43), (.int x39), (.ref 0)]) rfl rfl fun x45 e46 => ?_
        have e46t : x45.toInt = 10 := by rw [e46]; rfl
        refine s_dv (f := fun x y => x - x / y * y) 69 rfl rfl (by omega) fun x47 e48 => ?_
        have e48 : x47 = x43 - x43 / x45 * x45 := e48
        have e48t : x47.toInt = x43.toInt % x45.toInt := by rw [e48]; exact n_rem (by omega) (by omega)
        rw [e46t] at e48t
        refine s_cv (z := 96) (p := 0) (as := [(.int x39), (.int x47)]) (st1 := []) J 72 rfl rfl rfl rfl rfl rfl rfl rfl (Nat.le_of_ble_eq_true rfl) (Nat.le_of_ble_eq_true rfl) (e_toldOfPerson (P := P) (n := n) R hv6 x39 x47 J.1) ?_
        rintro _ _ ⟨rfl, x49, rfl, x49t⟩
        refine ⟨rfl, ?_⟩
        show aw none _ 95 _ (72, [some (.ref 0), some (.int t)], [(.int x49)]) w
        --
        refine aw_ret (v := some (.int x49)) rfl rfl ?_
        exact ⟨rfl, x49, rfl, Or.inr (Or.inr (Or.inl ⟨by omega, by have q := x49t; rw [show x39.toInt = (t.toInt - 30) / 10 by omega, show x47.toInt = (t.toInt - 30) % 10 by omega] at q; exact q⟩))⟩
    · --
      refine aw_step (f1 := (36, [some (.ref 0), some (.int t)], [(.ref 0)])) (w1 := w) rfl rfl ?_
      refine s_gr 3 J 39 rfl rfl rfl rfl rfl rfl ?_
      refine s_gr 8 J 42 rfl rfl rfl rfl rfl rfl ?_
      refine aw_step (f1 := (43, [some (.ref 0), some (.int t)], [(.int t), (.ref 8)])) (w1 := w) rfl rfl ?_
      refine s_i (pc1 := 45) (ls1 := [some (.ref 0), some (.int t)]) (st1 := [(.int t), (.ref 8)]) rfl rfl fun x50 e51 => ?_
      have e51t : x50.toInt = 20 := by rw [e51]; rfl
      refine s_i (pc1 := 46) (ls1 := [some (.ref 0), some (.int t)]) (st1 := [(.ref 8)]) rfl rfl fun x52 e53 => ?_
      have e53 : x52 = t - x50 := e53
      have e53t : x52.toInt = t.toInt - x50.toInt := by rw [e53]; exact n_sub (by omega) (by omega)
      --
      refine s_ia J 47 rfl rfl rfl rfl (by omega) (by omega) fun x54 x54a x54b x54f => ?_
      have x54v : x54.toInt = rI w 8 x52.toInt.toNat := by rw [← rI_of x54f]
      --
      refine aw_ret (v := some (.int x54)) rfl rfl ?_
      exact ⟨rfl, x54, rfl, Or.inr (Or.inl ⟨by rw [x54v, ← show x52.toInt.toNat = (t.toInt - 20).toNat by omega]; exact R.rv (r := 5) (i := x52.toInt.toNat) (by decide) (by decide) (by omega) (by show x52.toInt.toNat < 4; omega), by omega, by omega⟩)⟩
  · --
    refine aw_step (f1 := (12, [some (.ref 0), some (.int t)], [(.ref 0)])) (w1 := w) rfl rfl ?_
    refine s_gr 3 J 15 rfl rfl rfl rfl rfl rfl ?_
    refine s_gr 7 J 18 rfl rfl rfl rfl rfl rfl ?_
    refine aw_step (f1 := (19, [some (.ref 0), some (.int t)], [(.int t), (.ref 7)])) (w1 := w) rfl rfl ?_
    refine s_i (pc1 := 21) (ls1 := [some (.ref 0), some (.int t)]) (st1 := [(.int t), (.ref 7)]) rfl rfl fun x55 e56 => ?_
    have e56t : x55.toInt = 10 := by rw [e56]; rfl
    refine s_i (pc1 := 22) (ls1 := [some (.ref 0), some (.int t)]) (st1 := [(.ref 7)]) rfl rfl fun x57 e58 => ?_
    have e58 : x57 = t - x55 := e58
    have e58t : x57.toInt = t.toInt - x55.toInt := by rw [e58]; exact n_sub (by omega) (by omega)
    --
    refine s_ia J 23 rfl rfl rfl rfl (by omega) (by omega) fun x59 x59a x59b x59f => ?_
    have x59v : x59.toInt = rI w 7 x57.toInt.toNat := by rw [← rI_of x59f]
    --
    refine aw_ret (v := some (.int x59)) rfl rfl ?_
    exact ⟨rfl, x59, rfl, Or.inl ⟨by rw [x59v, ← show x57.toInt.toNat = (t.toInt - 10).toNat by omega]; exact R.rv (r := 4) (i := x57.toInt.toNat) (by decide) (by decide) (by omega) (by show x57.toInt.toNat < 4; omega), by omega, by omega⟩⟩
theorem f_told {d : Nat} {w : am_W} {V P : Nat → Int} {n : Int} (R : RMs w V) (R0 : RMp w n P) (hv6 : 0 ≤ V 6 ∧ V 6 ≤ 15) (t : Int32) (I : ab_inv ab_TT ab_sets w) : aw none (d + 4) 186 (fun r w1 => w = w1 ∧ ∃ z : Int32, r = some (.int z) ∧ toldP V n t.toInt z.toInt) (0, am_entry 186 [.ref 65, .int t], []) w := by
  have J : ab_J ab_TT ab_sets ab_WR2 w w := ⟨I, ab_fr.rf⟩
  have sz := szM_in I
  have hs := R.sz
  have hn := R0.1
  have r0 := R.f0
  have r1 := R.f1
  have r2 := R.f2
  have r4 := R.f4
  have r5 := R.f5
  have r6 := R.f6
  have r7 := R.f7
  have ta := ab_any32 t
  unfold ab_lo32 ab_hi32 at ta
  show aw none (d + 4) 186 _ (0, [some (.ref 65), some (.int t)], []) w
  refine aw_step (f1 := (1, [some (.ref 65), some (.int t)], [(.int t)])) (w1 := w) rfl rfl ?_
  refine s_l (pc1 := 2) (ls1 := [some (.ref 65), some (.int t)]) (st1 := []) rfl rfl fun y1 e2 => ?_
  have e2t : y1.toInt = t.toInt := by rw [e2]; exact Int32.toInt_toInt64 t
  refine s_l (pc1 := 5) (ls1 := [some (.ref 65), some (.int t)]) (st1 := [(.long y1)]) rfl rfl fun y3 e4 => ?_
  have e4t : y3.toInt = 30 := by rw [e4]; rfl
  refine s_l (pc1 := 8) (ls1 := [some (.ref 65), some (.int t)]) (st1 := [(.long y3), (.long y1)]) rfl rfl fun y5 e6 => ?_
  have e6t : y5.toInt = 69 := by rw [e6]; rfl
  refine s_cs (z := 108) (as := [(.long y1), (.long y3), (.long y5)]) (st1 := []) 11 rfl rfl rfl rfl rfl rfl (Nat.le_of_ble_eq_true rfl) (Nat.le_of_ble_eq_true rfl) (Nat.le_of_ble_eq_true rfl) (q_in2 y1 y3 y5) ?_
  rintro _ _ ⟨rfl, x7, rfl, x7t⟩
  refine ⟨rfl, ?_⟩
  show aw none _ 186 _ (11, [some (.ref 65), some (.int t)], [(.int x7)]) w
  refine s_if 29 14 rfl rfl rfl (fun (h8 : x7.toInt = 0) => ?_) (fun (h8 : ¬ (x7.toInt = 0)) => ?_)
  · --
    refine aw_step (f1 := (30, [some (.ref 65), some (.int t)], [(.int t)])) (w1 := w) rfl rfl ?_
    refine s_l (pc1 := 31) (ls1 := [some (.ref 65), some (.int t)]) (st1 := []) rfl rfl fun y9 e10 => ?_
    have e10t : y9.toInt = t.toInt := by rw [e10]; exact Int32.toInt_toInt64 t
    refine s_l (pc1 := 34) (ls1 := [some (.ref 65), some (.int t)]) (st1 := [(.long y9)]) rfl rfl fun y11 e12 => ?_
    have e12t : y11.toInt = 10 := by rw [e12]; rfl
    refine s_l (pc1 := 37) (ls1 := [some (.ref 65), some (.int t)]) (st1 := [(.long y11), (.long y9)]) rfl rfl fun y13 e14 => ?_
    have e14t : y13.toInt = 13 := by rw [e14]; rfl
    refine s_cs (z := 108) (as := [(.long y9), (.long y11), (.long y13)]) (st1 := []) 40 rfl rfl rfl rfl rfl rfl (Nat.le_of_ble_eq_true rfl) (Nat.le_of_ble_eq_true rfl) (Nat.le_of_ble_eq_true rfl) (q_in2 y9 y11 y13) ?_
    rintro _ _ ⟨rfl, x15, rfl, x15t⟩
    refine ⟨rfl, ?_⟩
    show aw none _ 186 _ (40, [some (.ref 65), some (.int t)], [(.int x15)]) w
    refine s_if 57 43 rfl rfl rfl (fun (h16 : ¬ x15.toInt = 0) => ?_) (fun (h16 : ¬ (¬ x15.toInt = 0)) => ?_)
    · --
      refine aw_step (f1 := (58, [some (.ref 65), some (.int t)], [(.int t)])) (w1 := w) rfl rfl ?_
      refine s_i (pc1 := 60) (ls1 := [some (.ref 65), some (.int t)]) (st1 := [(.int t)]) rfl rfl fun x17 e18 => ?_
      have e18t : x17.toInt = 20 := by rw [e18]; rfl
      refine s_ic 75 63 rfl rfl rfl (fun (h19 : x17.toInt ≤ t.toInt) => ?_) (fun (h19 : ¬ (x17.toInt ≤ t.toInt)) => ?_)
      · --
        refine aw_step (f1 := (76, [some (.ref 65), some (.int t)], [(.ref 65)])) (w1 := w) rfl rfl ?_
        refine s_gr 68 J 79 rfl rfl rfl rfl rfl rfl ?_
        refine aw_step (f1 := (80, [some (.ref 65), some (.int t)], [(.int t), (.ref 68)])) (w1 := w) rfl rfl ?_
        refine s_i (pc1 := 82) (ls1 := [some (.ref 65), some (.int t)]) (st1 := [(.int t), (.ref 68)]) rfl rfl fun x20 e21 => ?_
        have e21t : x20.toInt = 20 := by rw [e21]; rfl
        refine s_i (pc1 := 83) (ls1 := [some (.ref 65), some (.int t)]) (st1 := [(.ref 68)]) rfl rfl fun x22 e23 => ?_
        have e23 : x22 = t - x20 := e23
        have e23t : x22.toInt = t.toInt - x20.toInt := by rw [e23]; exact n_sub (by omega) (by omega)
        --
        refine s_ia J 84 rfl rfl rfl rfl (by omega) (by omega) fun x24 x24a x24b x24f => ?_
        have x24v : x24.toInt = rI w 68 x22.toInt.toNat := by rw [← rI_of x24f]
        refine aw_ret (v := some (.int x24)) rfl rfl ?_
        exact ⟨rfl, x24, rfl, Or.inr (Or.inl ⟨by rw [x24v, ← show x22.toInt.toNat = (t.toInt - 20).toNat by omega]; exact R.ra (i := x22.toInt.toNat) (c := 1) (by omega) (by decide), by omega, by omega⟩)⟩
      · --
        refine aw_step (f1 := (64, [some (.ref 65), some (.int t)], [(.ref 65)])) (w1 := w) rfl rfl ?_
        refine s_gr 67 J 67 rfl rfl rfl rfl rfl rfl ?_
        refine aw_step (f1 := (68, [some (.ref 65), some (.int t)], [(.int t), (.ref 67)])) (w1 := w) rfl rfl ?_
        refine s_i (pc1 := 70) (ls1 := [some (.ref 65), some (.int t)]) (st1 := [(.int t), (.ref 67)]) rfl rfl fun x25 e26 => ?_
        have e26t : x25.toInt = 10 := by rw [e26]; rfl
        refine s_i (pc1 := 71) (ls1 := [some (.ref 65), some (.int t)]) (st1 := [(.ref 67)]) rfl rfl fun x27 e28 => ?_
        have e28 : x27 = t - x25 := e28
        have e28t : x27.toInt = t.toInt - x25.toInt := by rw [e28]; exact n_sub (by omega) (by omega)
        --
        refine s_ia J 72 rfl rfl rfl rfl (by omega) (by omega) fun x29 x29a x29b x29f => ?_
        have x29v : x29.toInt = rI w 67 x27.toInt.toNat := by rw [← rI_of x29f]
        refine aw_step (f1 := (84, [some (.ref 65), some (.int t)], [(.int x29)])) (w1 := w) rfl rfl ?_
        refine aw_ret (v := some (.int x29)) rfl rfl ?_
        exact ⟨rfl, x29, rfl, Or.inl ⟨by rw [x29v, ← show x27.toInt.toNat = (t.toInt - 10).toNat by omega]; exact R.ra (i := x27.toInt.toNat) (c := 0) (by omega) (by decide), by omega, by omega⟩⟩
    · --
      refine aw_step (f1 := (44, [some (.ref 65), some (.int t)], [(.int t)])) (w1 := w) rfl rfl ?_
      refine s_l (pc1 := 45) (ls1 := [some (.ref 65), some (.int t)]) (st1 := []) rfl rfl fun y30 e31 => ?_
      have e31t : y30.toInt = t.toInt := by rw [e31]; exact Int32.toInt_toInt64 t
      refine s_l (pc1 := 48) (ls1 := [some (.ref 65), some (.int t)]) (st1 := [(.long y30)]) rfl rfl fun y32 e33 => ?_
      have e33t : y32.toInt = 20 := by rw [e33]; rfl
      refine s_l (pc1 := 51) (ls1 := [some (.ref 65), some (.int t)]) (st1 := [(.long y32), (.long y30)]) rfl rfl fun y34 e35 => ?_
      have e35t : y34.toInt = 23 := by rw [e35]; rfl
      refine s_cs (z := 108) (as := [(.long y30), (.long y32), (.long y34)]) (st1 := []) 54 rfl rfl rfl rfl rfl rfl (Nat.le_of_ble_eq_true rfl) (Nat.le_of_ble_eq_true rfl) (Nat.le_of_ble_eq_true rfl) (q_in2 y30 y32 y34) ?_
      rintro _ _ ⟨rfl, x36, rfl, x36t⟩
      refine ⟨rfl, ?_⟩
      show aw none _ 186 _ (54, [some (.ref 65), some (.int t)], [(.int x36)]) w
      refine s_if 85 57 rfl rfl rfl (fun (h37 : x36.toInt = 0) => ?_) (fun (h37 : ¬ (x36.toInt = 0)) => ?_)
      · --
        refine aw_step (f1 := (86, [some (.ref 65), some (.int t)], [(.int t)])) (w1 := w) rfl rfl ?_
        rcases (show (t.toInt < 0 ∨ 8 < t.toInt) ∨ t.toInt = 0 ∨ t.toInt = 1 ∨ t.toInt = 2 ∨ t.toInt = 3 ∨ t.toInt = 4 ∨ t.toInt = 5 ∨ t.toInt = 6 ∨ t.toInt = 7 ∨ t.toInt = 8 from by omega) with h38 | h38 | h38 | h38 | h38 | h38 | h38 | h38 | h38 | h38
        · refine s_swd 184 rfl rfl h38 ?_
          refine s_i (pc1 := 186) (ls1 := [some (.ref 65), some (.int t)]) (st1 := []) rfl rfl fun x39 e40 => ?_
          have e40t : x39.toInt = -2 := by rw [e40]; rfl
          --
          refine aw_ret (v := some (.int x39)) rfl rfl ?_
          by_cases h30 : 30 ≤ t.toInt
          · exact ⟨rfl, x39, rfl, Or.inr (Or.inr (Or.inl ⟨by omega, Or.inl ⟨by omega, by omega⟩⟩))⟩
          · exact ⟨rfl, x39, rfl, Or.inr (Or.inr (Or.inr (Or.inr (Or.inr (Or.inr (Or.inr (Or.inr (Or.inr (Or.inr (Or.inr (Or.inr (⟨by omega, by omega⟩))))))))))))⟩
        · refine s_swj (j := 0) 136 rfl (by omega) (by omega) (by omega) rfl rfl ?_
          refine aw_step (f1 := (137, [some (.ref 65), some (.int t)], [(.ref 65)])) (w1 := w) rfl rfl ?_
          refine s_gi J 140 rfl rfl rfl rfl rfl rfl fun x41 x41a x41b x41f => ?_
          have x41v : x41.toInt = fI w 65 16 := by rw [← fI_of x41f]
          --
          refine aw_ret (v := some (.int x41)) rfl rfl ?_
          exact ⟨rfl, x41, rfl, Or.inr (Or.inr (Or.inr (Or.inl ⟨by omega, by omega⟩)))⟩
        · refine s_swj (j := 1) 141 rfl (by omega) (by omega) (by omega) rfl rfl ?_
          refine aw_step (f1 := (142, [some (.ref 65), some (.int t)], [(.ref 65)])) (w1 := w) rfl rfl ?_
          refine s_gi J 145 rfl rfl rfl rfl rfl rfl fun x42 x42a x42b x42f => ?_
          have x42v : x42.toInt = fI w 65 0 := by rw [← fI_of x42f]
          --
          refine aw_ret (v := some (.int x42)) rfl rfl ?_
          exact ⟨rfl, x42, rfl, Or.inr (Or.inr (Or.inr (Or.inr (Or.inl ⟨by omega, by omega⟩))))⟩
        · refine s_swj (j := 2) 146 rfl (by omega) (by omega) (by omega) rfl rfl ?_
          refine aw_step (f1 := (147, [some (.ref 65), some (.int t)], [(.ref 65)])) (w1 := w) rfl rfl ?_
          refine s_gi J 150 rfl rfl rfl rfl rfl rfl fun x43 x43a x43b x43f => ?_
          have x43v : x43.toInt = fI w 65 1 := by rw [← fI_of x43f]
          --
          refine aw_ret (v := some (.int x43)) rfl rfl ?_
          exact ⟨rfl, x43, rfl, Or.inr (Or.inr (Or.inr (Or.inr (Or.inr (Or.inl ⟨by omega, by omega⟩)))))⟩
        · refine s_swj (j := 3) 151 rfl (by omega) (by omega) (by omega) rfl rfl ?_
          refine aw_step (f1 := (152, [some (.ref 65), some (.int t)], [(.ref 65)])) (w1 := w) rfl rfl ?_
          refine s_gi J 155 rfl rfl rfl rfl rfl rfl fun x44 x44a x44b x44f => ?_
          have x44v : x44.toInt = fI w 65 3 := by rw [← fI_of x44f]
          --
          refine aw_ret (v := some (.int x44)) rfl rfl ?_
          exact ⟨rfl, x44, rfl, Or.inr (Or.inr (Or.inr (Or.inr (Or.inr (Or.inr (Or.inl ⟨by omega, by omega⟩))))))⟩
        · refine s_swj (j := 4) 156 rfl (by omega) (by omega) (by omega) rfl rfl ?_
          refine aw_step (f1 := (157, [some (.ref 65), some (.int t)], [(.ref 65)])) (w1 := w) rfl rfl ?_
          refine s_gi J 160 rfl rfl rfl rfl rfl rfl fun x45 x45a x45b x45f => ?_
          have x45v : x45.toInt = fI w 65 7 := by rw [← fI_of x45f]
          --
          refine aw_ret (v := some (.int x45)) rfl rfl ?_
          exact ⟨rfl, x45, rfl, Or.inr (Or.inr (Or.inr (Or.inr (Or.inr (Or.inr (Or.inr (Or.inl ⟨by omega, by omega⟩)))))))⟩
        · refine s_swj (j := 5) 161 rfl (by omega) (by omega) (by omega) rfl rfl ?_
          refine aw_step (f1 := (162, [some (.ref 65), some (.int t)], [(.ref 65)])) (w1 := w) rfl rfl ?_
          refine s_gi J 165 rfl rfl rfl rfl rfl rfl fun x46 x46a x46b x46f => ?_
          have x46v : x46.toInt = fI w 65 8 := by rw [← fI_of x46f]
          --
          refine aw_ret (v := some (.int x46)) rfl rfl ?_
          exact ⟨rfl, x46, rfl, Or.inr (Or.inr (Or.inr (Or.inr (Or.inr (Or.inr (Or.inr (Or.inr (Or.inl ⟨by omega, by omega⟩))))))))⟩
        · refine s_swj (j := 6) 166 rfl (by omega) (by omega) (by omega) rfl rfl ?_
          refine aw_step (f1 := (167, [some (.ref 65), some (.int t)], [(.ref 65)])) (w1 := w) rfl rfl ?_
          refine s_gi J 170 rfl rfl rfl rfl rfl rfl fun x47 x47a x47b x47f => ?_
          have x47v : x47.toInt = fI w 65 9 := by rw [← fI_of x47f]
          --
          refine aw_ret (v := some (.int x47)) rfl rfl ?_
          exact ⟨rfl, x47, rfl, Or.inr (Or.inr (Or.inr (Or.inr (Or.inr (Or.inr (Or.inr (Or.inr (Or.inr (Or.inl ⟨by omega, by omega⟩)))))))))⟩
        · refine s_swj (j := 7) 171 rfl (by omega) (by omega) (by omega) rfl rfl ?_
          refine aw_step (f1 := (172, [some (.ref 65), some (.int t)], [(.ref 65)])) (w1 := w) rfl rfl ?_
          refine s_gi J 175 rfl rfl rfl rfl rfl rfl fun x48 x48a x48b x48f => ?_
          have x48v : x48.toInt = fI w 65 14 := by rw [← fI_of x48f]
          --
          refine aw_ret (v := some (.int x48)) rfl rfl ?_
          exact ⟨rfl, x48, rfl, Or.inr (Or.inr (Or.inr (Or.inr (Or.inr (Or.inr (Or.inr (Or.inr (Or.inr (Or.inr (Or.inl ⟨by omega, by omega⟩))))))))))⟩
        · refine s_swj (j := 8) 176 rfl (by omega) (by omega) (by omega) rfl rfl ?_
          refine aw_step (f1 := (177, [some (.ref 65), some (.int t)], [(.ref 65)])) (w1 := w) rfl rfl ?_
          refine s_gl J 180 rfl rfl rfl rfl rfl rfl fun y49 y49a y49b y49f => ?_
          --
          refine s_cs (z := 109) (as := [(.long y49)]) (st1 := []) 183 rfl rfl rfl rfl rfl rfl (Nat.le_of_ble_eq_true rfl) (Nat.le_of_ble_eq_true rfl) (Nat.le_of_ble_eq_true rfl) (q_ones y49) ?_
          rintro _ _ ⟨rfl, x50, rfl, x50t⟩
          refine ⟨rfl, ?_⟩
          show aw none _ 186 _ (183, [some (.ref 65), some (.int t)], [(.int x50)]) w
          have x50c := cnt_le (n64 y49) 64
          --
          refine aw_ret (v := some (.int x50)) rfl rfl ?_
          exact ⟨rfl, x50, rfl, Or.inr (Or.inr (Or.inr (Or.inr (Or.inr (Or.inr (Or.inr (Or.inr (Or.inr (Or.inr (Or.inr (Or.inl ⟨by rw [x50t, show Int64.ofInt (V 3) = y49 from by rw [← R.f3, fLi_of y49f]; exact Int64.ofInt_toInt _], by omega⟩)))))))))))⟩
      · --
        refine aw_step (f1 := (58, [some (.ref 65), some (.int t)], [(.int t)])) (w1 := w) rfl rfl ?_
        refine s_i (pc1 := 60) (ls1 := [some (.ref 65), some (.int t)]) (st1 := [(.int t)]) rfl rfl fun x51 e52 => ?_
        have e52t : x51.toInt = 20 := by rw [e52]; rfl
        refine s_ic 75 63 rfl rfl rfl (fun (h53 : x51.toInt ≤ t.toInt) => ?_) (fun (h53 : ¬ (x51.toInt ≤ t.toInt)) => ?_)
        · --
          refine aw_step (f1 := (76, [some (.ref 65), some (.int t)], [(.ref 65)])) (w1 := w) rfl rfl ?_
          refine s_gr 68 J 79 rfl rfl rfl rfl rfl rfl ?_
          refine aw_step (f1 := (80, [some (.ref 65), some (.int t)], [(.int t), (.ref 68)])) (w1 := w) rfl rfl ?_
          refine s_i (pc1 := 82) (ls1 := [some (.ref 65), some (.int t)]) (st1 := [(.int t), (.ref 68)]) rfl rfl fun x54 e55 => ?_
          have e55t : x54.toInt = 20 := by rw [e55]; rfl
          refine s_i (pc1 := 83) (ls1 := [some (.ref 65), some (.int t)]) (st1 := [(.ref 68)]) rfl rfl fun x56 e57 => ?_
          have e57 : x56 = t - x54 := e57
          have e57t : x56.toInt = t.toInt - x54.toInt := by rw [e57]; exact n_sub (by omega) (by omega)
          --
          refine s_ia J 84 rfl rfl rfl rfl (by omega) (by omega) fun x58 x58a x58b x58f => ?_
          have x58v : x58.toInt = rI w 68 x56.toInt.toNat := by rw [← rI_of x58f]
          refine aw_ret (v := some (.int x58)) rfl rfl ?_
          exact ⟨rfl, x58, rfl, Or.inr (Or.inl ⟨by rw [x58v, ← show x56.toInt.toNat = (t.toInt - 20).toNat by omega]; exact R.ra (i := x56.toInt.toNat) (c := 1) (by omega) (by decide), by omega, by omega⟩)⟩
        · --
          refine aw_step (f1 := (64, [some (.ref 65), some (.int t)], [(.ref 65)])) (w1 := w) rfl rfl ?_
          refine s_gr 67 J 67 rfl rfl rfl rfl rfl rfl ?_
          refine aw_step (f1 := (68, [some (.ref 65), some (.int t)], [(.int t), (.ref 67)])) (w1 := w) rfl rfl ?_
          refine s_i (pc1 := 70) (ls1 := [some (.ref 65), some (.int t)]) (st1 := [(.int t), (.ref 67)]) rfl rfl fun x59 e60 => ?_
          have e60t : x59.toInt = 10 := by rw [e60]; rfl
          refine s_i (pc1 := 71) (ls1 := [some (.ref 65), some (.int t)]) (st1 := [(.ref 67)]) rfl rfl fun x61 e62 => ?_
          have e62 : x61 = t - x59 := e62
          have e62t : x61.toInt = t.toInt - x59.toInt := by rw [e62]; exact n_sub (by omega) (by omega)
          --
          refine s_ia J 72 rfl rfl rfl rfl (by omega) (by omega) fun x63 x63a x63b x63f => ?_
          have x63v : x63.toInt = rI w 67 x61.toInt.toNat := by rw [← rI_of x63f]
          refine aw_step (f1 := (84, [some (.ref 65), some (.int t)], [(.int x63)])) (w1 := w) rfl rfl ?_
          refine aw_ret (v := some (.int x63)) rfl rfl ?_
          exact ⟨rfl, x63, rfl, Or.inl ⟨by rw [x63v, ← show x61.toInt.toNat = (t.toInt - 10).toNat by omega]; exact R.ra (i := x61.toInt.toNat) (c := 0) (by omega) (by decide), by omega, by omega⟩⟩
  · --
    refine aw_step (f1 := (15, [some (.ref 65), some (.int t)], [(.ref 65)])) (w1 := w) rfl rfl ?_
    refine aw_step (f1 := (16, [some (.ref 65), some (.int t)], [(.int t), (.ref 65)])) (w1 := w) rfl rfl ?_
    refine s_i (pc1 := 18) (ls1 := [some (.ref 65), some (.int t)]) (st1 := [(.int t), (.ref 65)]) rfl rfl fun x64 e65 => ?_
    have e65t : x64.toInt = 10 := by rw [e65]; rfl
    refine s_dv (f := fun x y => x / y) 19 rfl rfl (by omega) fun x66 e67 => ?_
    have e67 : x66 = t / x64 := e67
    have e67t : x66.toInt = t.toInt / x64.toInt := by rw [e67]; exact n_div (by omega) (by omega)
    rw [e65t] at e67t
    refine s_i (pc1 := 20) (ls1 := [some (.ref 65), some (.int t)]) (st1 := [(.int x66), (.ref 65)]) rfl rfl fun x68 e69 => ?_
    have e69t : x68.toInt = 3 := by rw [e69]; rfl
    refine s_i (pc1 := 21) (ls1 := [some (.ref 65), some (.int t)]) (st1 := [(.ref 65)]) rfl rfl fun x70 e71 => ?_
    have e71 : x70 = x66 - x68 := e71
    have e71t : x70.toInt = x66.toInt - x68.toInt := by rw [e71]; exact n_sub (by omega) (by omega)
    refine aw_step (f1 := (22, [some (.ref 65), some (.int t)], [(.int t), (.int x70), (.ref 65)])) (w1 := w) rfl rfl ?_
    refine s_i (pc1 := 24) (ls1 := [some (.ref 65), some (.int t)]) (st1 := [(.int t), (.int x70), (.ref 65)]) rfl rfl fun x72 e73 => ?_
    have e73t : x72.toInt = 10 := by rw [e73]; rfl
    refine s_dv (f := fun x y => x - x / y * y) 25 rfl rfl (by omega) fun x74 e75 => ?_
    have e75 : x74 = t - t / x72 * x72 := e75
    have e75t : x74.toInt = t.toInt % x72.toInt := by rw [e75]; exact n_rem (by omega) (by omega)
    rw [e73t] at e75t
    refine s_cv (z := 185) (p := 65) (as := [(.int x70), (.int x74)]) (st1 := []) J 28 rfl rfl rfl rfl rfl rfl rfl rfl (Nat.le_of_ble_eq_true rfl) (Nat.le_of_ble_eq_true rfl) (f_toldOfPerson (P := P) (n := n) R hv6 x70 x74 J.1) ?_
    rintro _ _ ⟨rfl, x76, rfl, x76t⟩
    refine ⟨rfl, ?_⟩
    show aw none _ 186 _ (28, [some (.ref 65), some (.int t)], [(.int x76)]) w
    --
    refine aw_ret (v := some (.int x76)) rfl rfl ?_
    exact ⟨rfl, x76, rfl, Or.inr (Or.inr (Or.inl ⟨by omega, by have q := x76t; rw [show x70.toInt = (t.toInt - 30) / 10 by omega, show x74.toInt = (t.toInt - 30) % 10 by omega] at q; exact q⟩))⟩
