/-! ===== lay, say, seen ===== -/
noncomputable def QS2 (w : am_W) : Option Value → am_W → Prop := fun r w1 => ab_J ab_TT ab_sets ab_WR2 w w1 ∧ ∃ b : Int32, r = some (.int b)
theorem q_layB {d : Nat} {w00 : am_W} {n : Int} (hn36 : n ≤ 36) (fi : Int32) (hf : 0 ≤ fi.toInt ∧ fi.toInt < 36) : ∀ (m : Nat) (w : am_W) (c : Int32), (n - c.toInt).toNat < m → 0 ≤ c.toInt → ab_J ab_TT ab_sets ab_WR2 w00 w → fI w 65 16 = n → aw none (d + 5) 124 (QS2 w00) (56, [some (.ref 65), some (.int fi), some (.int c)], []) w := by
  intro m
  induction m with
  | zero => intro w c p; omega
  | succ m ih =>
    intro w c p1 p2 J E
    refine aw_step (f1 := (57, [some (.ref 65), some (.int fi), some (.int c)], [(.int c)])) (w1 := w) rfl rfl ?_
    refine aw_step (f1 := (58, [some (.ref 65), some (.int fi), some (.int c)], [(.ref 65), (.int c)])) (w1 := w) rfl rfl ?_
    refine s_gi J 61 rfl rfl rfl rfl rfl rfl fun x1 x1a x1b x1f => ?_
    have hn := fI_of x1f
    refine s_ic 82 64 rfl rfl rfl (fun (h2 : x1.toInt ≤ c.toInt) => ?_) (fun (h2 : ¬ (x1.toInt ≤ c.toInt)) => ?_)
    · --
      refine aw_step (f1 := (83, [some (.ref 65), some (.int fi), some (.int c)], [(.ref 65)])) (w1 := w) rfl rfl ?_
      refine aw_step (f1 := (84, [some (.ref 65), some (.int fi), some (.int c)], [(.int fi), (.ref 65)])) (w1 := w) rfl rfl ?_
      refine s_cv (z := 112) (p := 65) (as := [(.int fi)]) (st1 := []) J 87 rfl rfl rfl rfl rfl rfl rfl rfl (Nat.le_of_ble_eq_true rfl) (Nat.le_of_ble_eq_true rfl) ((ok_v (as := [.ref 65, .int fi]) ks9 (by decide) J.1 (And.intro (vF_r) (And.intro (vF_i (by omega) (by omega)) (trivial)))).deep (by omega)) ?_
      rintro _ w3 ⟨rfl, J4c⟩
      have J4 := J.trans J4c
      refine ⟨am_len2 J J4c, ?_⟩
      show aw none _ 124 _ (87, [some (.ref 65), some (.int fi), some (.int c)], []) w3
      refine aw_step (f1 := (88, [some (.ref 65), some (.int fi), some (.int c)], [(.ref 65)])) (w1 := w3) rfl rfl ?_
      refine s_i (pc1 := 89) (ls1 := [some (.ref 65), some (.int fi), some (.int c)]) (st1 := [(.ref 65)]) rfl rfl fun x5 e6 => ?_
      have e6t : x5.toInt = 0 := by rw [e6]; rfl
      refine s_pi J4 92 rfl rfl rfl rfl rfl rfl rfl (by omega) (by omega) fun w7 J8 w7e => ?_
      refine aw_step (f1 := (93, [some (.ref 65), some (.int fi), some (.int c)], [(.ref 65)])) (w1 := w7) rfl rfl ?_
      refine s_cv (z := 117) (p := 65) (as := []) (st1 := []) J8 96 rfl rfl rfl rfl rfl rfl rfl rfl (Nat.le_of_ble_eq_true rfl) (Nat.le_of_ble_eq_true rfl) ((ok_l (as := [.ref 65]) (ok_WR2 kg18) (by decide) J8.1 (And.intro (vF_r) (trivial))).deep (by omega)) ?_
      rintro _ w10 ⟨J11c, y9, rfl⟩
      have J11 := J8.trans J11c
      refine ⟨am_len2 J8 J11c, ?_⟩
      show aw none _ 124 _ (96, [some (.ref 65), some (.int fi), some (.int c)], [(.long y9)]) w10
      refine s_cs (z := 109) (as := [(.long y9)]) (st1 := []) 99 rfl rfl rfl rfl rfl rfl (Nat.le_of_ble_eq_true rfl) (Nat.le_of_ble_eq_true rfl) (Nat.le_of_ble_eq_true rfl) (q_ones y9) ?_
      rintro _ _ ⟨rfl, x12, rfl, x12t⟩
      refine ⟨rfl, ?_⟩
      show aw none _ 124 _ (99, [some (.ref 65), some (.int fi), some (.int c)], [(.int x12)]) w10
      have x12c := cnt_le (n64 y9) 64
      refine aw_ret (v := some (.int x12)) rfl rfl ?_
      exact ⟨J11, x12, rfl⟩
    · --
      refine aw_step (f1 := (65, [some (.ref 65), some (.int fi), some (.int c)], [(.ref 65)])) (w1 := w) rfl rfl ?_
      refine s_gr 66 J 68 rfl rfl rfl rfl rfl rfl ?_
      refine aw_step (f1 := (69, [some (.ref 65), some (.int fi), some (.int c)], [(.int c), (.ref 66)])) (w1 := w) rfl rfl ?_
      refine aw_step (f1 := (70, [some (.ref 65), some (.int fi), some (.int c)], [(.ref 65), (.int c), (.ref 66)])) (w1 := w) rfl rfl ?_
      refine s_gr 73 J 73 rfl rfl rfl rfl rfl rfl ?_
      refine aw_step (f1 := (74, [some (.ref 65), some (.int fi), some (.int c)], [(.int c), (.ref 73), (.int c), (.ref 66)])) (w1 := w) rfl rfl ?_
      refine s_ia J 75 rfl rfl rfl rfl (by omega) (by omega) fun x13 x13a x13b x13f => ?_
      refine s_is J 76 rfl rfl rfl rfl (by omega) (by omega) (by omega) (by omega) fun w14 J15 w14e => ?_
      refine aw_step (f1 := (79, [some (.ref 65), some (.int fi), some (.int (c + Int32.ofInt 1))], [])) (w1 := w14) rfl rfl ?_
      obtain ⟨x16, x16e⟩ : ∃ z, z = (c + Int32.ofInt 1) := ⟨_, rfl⟩
      have x16t : x16.toInt = c.toInt + (1) := by rw [x16e]; exact n_add (y := Int32.ofInt (1)) (by show _ ≤ _ + (1 : Int); omega) (by show _ + (1 : Int) ≤ _; omega)
      rw [← x16e]
      refine aw_step (f1 := (56, [some (.ref 65), some (.int fi), some (.int x16)], [])) (w1 := w14) rfl rfl ?_
      have so := rI_st J.1 (p := 66) (j := c.toInt.toNat) rfl (by omega) w14e
      exact ih w14 x16 (by omega) (by omega) J15 (by rw [so.1.fIe (by decide)]; exact E)
theorem q_layA {d : Nat} {w00 w : am_W} (J : ab_J ab_TT ab_sets ab_WR2 w00 w) (hn36 : fI w 65 16 ≤ 36) : ∀ (m : Nat) (fi c : Int32), (c.toInt + 1).toNat < m → -1 ≤ c.toInt → c.toInt < fI w 65 16 → (fi.toInt = -6 ∨ (0 ≤ fi.toInt ∧ fi.toInt < 36)) → aw none (d + 5) 124 (QS2 w00) (20, [some (.ref 65), some (.int fi), some (.int c)], []) w := by
  have nb := fI_in (p := 65) (k := 16) J.1 rfl rfl
  intro m
  induction m with
  | zero => intro fi c p; omega
  | succ m ih =>
    intro fi c p1 p2 p3 p4
    refine aw_step (f1 := (21, [some (.ref 65), some (.int fi), some (.int c)], [(.int c)])) (w1 := w) rfl rfl ?_
    refine s_if 47 24 rfl rfl rfl (fun (h1 : c.toInt < 0) => ?_) (fun (h1 : ¬ (c.toInt < 0)) => ?_)
    · --
      refine aw_step (f1 := (48, [some (.ref 65), some (.int fi), some (.int c)], [(.int fi)])) (w1 := w) rfl rfl ?_
      refine s_if 54 51 rfl rfl rfl (fun (h2 : 0 ≤ fi.toInt) => ?_) (fun (h2 : ¬ (0 ≤ fi.toInt)) => ?_)
      · --
        refine s_i (pc1 := 55) (ls1 := [some (.ref 65), some (.int fi), some (.int c)]) (st1 := []) rfl rfl fun x3 e4 => ?_
        have e4t : x3.toInt = 0 := by rw [e4]; rfl
        refine aw_step (f1 := (56, [some (.ref 65), some (.int fi), some (.int x3)], [])) (w1 := w) rfl rfl ?_
        exact q_layB (n := fI w 65 16) hn36 fi ⟨by omega, by omega⟩ 61 w x3 (by omega) (by omega) J rfl
      · --
        refine s_i (pc1 := 53) (ls1 := [some (.ref 65), some (.int fi), some (.int c)]) (st1 := []) rfl rfl fun x5 e6 => ?_
        have e6t : x5.toInt = -3 := by rw [e6]; rfl
        refine aw_ret (v := some (.int x5)) rfl rfl ?_
        exact ⟨J, x5, rfl⟩
    · --
      refine aw_step (f1 := (25, [some (.ref 65), some (.int fi), some (.int c)], [(.ref 65)])) (w1 := w) rfl rfl ?_
      refine s_gr 73 J 28 rfl rfl rfl rfl rfl rfl ?_
      refine aw_step (f1 := (29, [some (.ref 65), some (.int fi), some (.int c)], [(.int c), (.ref 73)])) (w1 := w) rfl rfl ?_
      refine s_ia J 30 rfl rfl rfl rfl (by omega) (by omega) fun x7 x7a x7b x7f => ?_
      refine s_i (pc1 := 32) (ls1 := [some (.ref 65), some (.int fi), some (.int c)]) (st1 := [(.int x7)]) rfl rfl fun x8 e9 => ?_
      have e9t : x8.toInt = 126 := by rw [e9]; rfl
      refine s_ic 39 35 rfl rfl rfl (fun (h10 : x7.toInt = x8.toInt) => ?_) (fun (h10 : ¬ (x7.toInt = x8.toInt)) => ?_)
      · --
        refine aw_step (f1 := (40, [some (.ref 65), some (.int fi), some (.int c)], [(.int fi)])) (w1 := w) rfl rfl ?_
        refine aw_step (f1 := (41, [some (.ref 65), some (.int fi), some (.int c)], [])) (w1 := w) rfl rfl ?_
        refine aw_step (f1 := (44, [some (.ref 65), some (.int fi), some (.int (c + Int32.ofInt (-1)))], [])) (w1 := w) rfl rfl ?_
        obtain ⟨x11, x11e⟩ : ∃ z, z = (c + Int32.ofInt (-1)) := ⟨_, rfl⟩
        have x11t : x11.toInt = c.toInt + (-1) := by rw [x11e]; exact n_add (y := Int32.ofInt (-1)) (by show _ ≤ _ + (-1 : Int); omega) (by show _ + (-1 : Int) ≤ _; omega)
        rw [← x11e]
        refine aw_step (f1 := (20, [some (.ref 65), some (.int fi), some (.int x11)], [])) (w1 := w) rfl rfl ?_
        exact ih fi x11 (by omega) (by omega) (by omega) (by omega)
      · --
        refine aw_step (f1 := (36, [some (.ref 65), some (.int fi), some (.int c)], [(.int c)])) (w1 := w) rfl rfl ?_
        refine aw_step (f1 := (40, [some (.ref 65), some (.int fi), some (.int c)], [(.int c)])) (w1 := w) rfl rfl ?_
        refine aw_step (f1 := (41, [some (.ref 65), some (.int c), some (.int c)], [])) (w1 := w) rfl rfl ?_
        refine aw_step (f1 := (44, [some (.ref 65), some (.int c), some (.int (c + Int32.ofInt (-1)))], [])) (w1 := w) rfl rfl ?_
        obtain ⟨x12, x12e⟩ : ∃ z, z = (c + Int32.ofInt (-1)) := ⟨_, rfl⟩
        have x12t : x12.toInt = c.toInt + (-1) := by rw [x12e]; exact n_add (y := Int32.ofInt (-1)) (by show _ ≤ _ + (-1 : Int); omega) (by show _ + (-1 : Int) ≤ _; omega)
        rw [← x12e]
        refine aw_step (f1 := (20, [some (.ref 65), some (.int c), some (.int x12)], [])) (w1 := w) rfl rfl ?_
        exact ih c x12 (by omega) (by omega) (by omega) (by omega)
theorem q_lay {d : Nat} {w : am_W} (I : ab_inv ab_TT ab_sets w) : aw none (d + 5) 124 (QS2 w) (0, am_entry 124 [.ref 65], []) w := by
  have J : ab_J ab_TT ab_sets ab_WR2 w w := ⟨I, ab_fr.rf⟩
  have sz := szM_in I
  show aw none (d + 5) 124 _ (0, [some (.ref 65), none, none], []) w
  refine aw_step (f1 := (1, [some (.ref 65), none, none], [(.ref 65)])) (w1 := w) rfl rfl ?_
  refine s_cv (z := 121) (p := 65) (as := []) (st1 := []) J 4 rfl rfl rfl rfl rfl rfl rfl rfl (Nat.le_of_ble_eq_true rfl) (Nat.le_of_ble_eq_true rfl) (q_faultOfLand J.1) ?_
  rintro _ _ ⟨rfl, x1, rfl, x1t⟩
  refine ⟨rfl, ?_⟩
  show aw none _ 124 _ (4, [some (.ref 65), none, none], [(.int x1)]) w
  have nb := fI_in (p := 65) (k := 16) J.1 rfl rfl
  --
  refine s_if 10 7 rfl rfl rfl (fun (h2 : x1.toInt < 0) => ?_) (fun (h2 : ¬ (x1.toInt < 0)) => ?_)
  · --
    have kk : fI w 65 16 ≤ 36 := by
      rcases x1t with q | q | q
      · apply Classical.byContradiction
        intro z
        have := (q.2.2 (szM w).toNat (by omega)).1
        omega
      · omega
      · omega
    refine s_i (pc1 := 12) (ls1 := [some (.ref 65), none, none]) (st1 := []) rfl rfl fun x3 e4 => ?_
    have e4t : x3.toInt = -6 := by rw [e4]; rfl
    refine aw_step (f1 := (13, [some (.ref 65), some (.int x3), none], [])) (w1 := w) rfl rfl ?_
    refine aw_step (f1 := (14, [some (.ref 65), some (.int x3), none], [(.ref 65)])) (w1 := w) rfl rfl ?_
    refine s_gi J 17 rfl rfl rfl rfl rfl rfl fun x5 x5a x5b x5f => ?_
    have hn := fI_of x5f
    refine s_i (pc1 := 18) (ls1 := [some (.ref 65), some (.int x3), none]) (st1 := [(.int x5)]) rfl rfl fun x6 e7 => ?_
    have e7t : x6.toInt = 1 := by rw [e7]; rfl
    refine s_i (pc1 := 19) (ls1 := [some (.ref 65), some (.int x3), none]) (st1 := []) rfl rfl fun x8 e9 => ?_
    have e9 : x8 = x5 - x6 := e9
    have e9t : x8.toInt = x5.toInt - x6.toInt := by rw [e9]; exact n_sub (by omega) (by omega)
    refine aw_step (f1 := (20, [some (.ref 65), some (.int x3), some (.int x8)], [])) (w1 := w) rfl rfl ?_
    exact q_layA J kk 62 x3 x8 (by omega) (by omega) (by omega) (by omega)
  · --
    refine s_i (pc1 := 9) (ls1 := [some (.ref 65), none, none]) (st1 := []) rfl rfl fun x10 e11 => ?_
    have e11t : x10.toInt = -5 := by rw [e11]; rfl
    refine aw_ret (v := some (.int x10)) rfl rfl ?_
    exact ⟨J, x10, rfl⟩
theorem q_say {d : Nat} {w : am_W} (s : Int32) (I : ab_inv ab_TT ab_sets w) : aw none (d + 1) 119 (QS2 w) (0, am_entry 119 [.ref 65, .int s], []) w := by
  have J : ab_J ab_TT ab_sets ab_WR2 w w := ⟨I, ab_fr.rf⟩
  show aw none (d + 1) 119 _ (0, [some (.ref 65), some (.int s)], []) w
  refine aw_step (f1 := (1, [some (.ref 65), some (.int s)], [(.int s)])) (w1 := w) rfl rfl ?_
  refine s_l (pc1 := 2) (ls1 := [some (.ref 65), some (.int s)]) (st1 := []) rfl rfl fun y1 e2 => ?_
  have e2t : y1.toInt = s.toInt := by rw [e2]; exact Int32.toInt_toInt64 s
  refine s_l (pc1 := 5) (ls1 := [some (.ref 65), some (.int s)]) (st1 := [(.long y1)]) rfl rfl fun y3 e4 => ?_
  have e4t : y3.toInt = 33 := by rw [e4]; rfl
  refine s_l (pc1 := 8) (ls1 := [some (.ref 65), some (.int s)]) (st1 := [(.long y3), (.long y1)]) rfl rfl fun y5 e6 => ?_
  have e6t : y5.toInt = 126 := by rw [e6]; rfl
  refine s_cs (z := 108) (as := [(.long y1), (.long y3), (.long y5)]) (st1 := []) 11 rfl rfl rfl rfl rfl rfl (Nat.le_of_ble_eq_true rfl) (Nat.le_of_ble_eq_true rfl) (Nat.le_of_ble_eq_true rfl) (q_in2 y1 y3 y5) ?_
  rintro _ _ ⟨rfl, x7, rfl, x7t⟩
  refine ⟨rfl, ?_⟩
  show aw none _ 119 _ (11, [some (.ref 65), some (.int s)], [(.int x7)]) w
  refine s_if 17 14 rfl rfl rfl (fun (h8 : ¬ x7.toInt = 0) => ?_) (fun (h8 : ¬ (¬ x7.toInt = 0)) => ?_)
  · --
    refine aw_step (f1 := (18, [some (.ref 65), some (.int s)], [(.ref 65)])) (w1 := w) rfl rfl ?_
    refine s_gi J 21 rfl rfl rfl rfl rfl rfl fun x9 x9a x9b x9f => ?_
    have h1 := fI_of x9f
    refine s_i (pc1 := 23) (ls1 := [some (.ref 65), some (.int s)]) (st1 := [(.int x9)]) rfl rfl fun x10 e11 => ?_
    have e11t : x10.toInt = 60 := by rw [e11]; rfl
    refine s_ic 29 26 rfl rfl rfl (fun (h12 : ¬ x9.toInt = x10.toInt) => ?_) (fun (h12 : ¬ (¬ x9.toInt = x10.toInt)) => ?_)
    · --
      refine aw_step (f1 := (30, [some (.ref 65), some (.int s)], [(.ref 65)])) (w1 := w) rfl rfl ?_
      refine s_gr 73 J 33 rfl rfl rfl rfl rfl rfl ?_
      refine aw_step (f1 := (34, [some (.ref 65), some (.int s)], [(.ref 65), (.ref 73)])) (w1 := w) rfl rfl ?_
      refine s_gi J 37 rfl rfl rfl rfl rfl rfl fun x13 x13a x13b x13f => ?_
      have h2 := fI_of x13f
      refine aw_step (f1 := (38, [some (.ref 65), some (.int s)], [(.int s), (.int x13), (.ref 73)])) (w1 := w) rfl rfl ?_
      refine s_is J 39 rfl rfl rfl rfl (by omega) (by omega) (by omega) (by omega) fun w14 J15 w14e => ?_
      have so73 := (rI_st J.1 (p := 73) (j := x13.toInt.toNat) rfl (by omega) w14e).1.fIe (p := 65) (k := 16) (by decide)
      refine aw_step (f1 := (40, [some (.ref 65), some (.int s)], [(.ref 65)])) (w1 := w14) rfl rfl ?_
      refine aw_step (f1 := (41, [some (.ref 65), some (.int s)], [(.ref 65), (.ref 65)])) (w1 := w14) rfl rfl ?_
      refine s_gi J15 44 rfl rfl rfl rfl rfl rfl fun x16 x16a x16b x16f => ?_
      have h3 := fI_of x16f
      refine s_i (pc1 := 45) (ls1 := [some (.ref 65), some (.int s)]) (st1 := [(.int x16), (.ref 65)]) rfl rfl fun x17 e18 => ?_
      have e18t : x17.toInt = 1 := by rw [e18]; rfl
      refine s_i (pc1 := 46) (ls1 := [some (.ref 65), some (.int s)]) (st1 := [(.ref 65)]) rfl rfl fun x19 e20 => ?_
      have e20 : x19 = x16 + x17 := e20
      have e20t : x19.toInt = x16.toInt + x17.toInt := by rw [e20]; exact n_add (by omega) (by omega)
      refine s_pi J15 49 rfl rfl rfl rfl rfl rfl rfl (by omega) (by omega) fun w21 J22 w21e => ?_
      refine aw_step (f1 := (50, [some (.ref 65), some (.int s)], [(.ref 65)])) (w1 := w21) rfl rfl ?_
      refine s_gi J22 53 rfl rfl rfl rfl rfl rfl fun x23 x23a x23b x23f => ?_
      refine aw_ret (v := some (.int x23)) rfl rfl ?_
      exact ⟨J22, x23, rfl⟩
    · --
      refine s_i (pc1 := 28) (ls1 := [some (.ref 65), some (.int s)]) (st1 := []) rfl rfl fun x24 e25 => ?_
      have e25t : x24.toInt = -4 := by rw [e25]; rfl
      refine aw_ret (v := some (.int x24)) rfl rfl ?_
      exact ⟨J, x24, rfl⟩
  · --
    refine s_i (pc1 := 16) (ls1 := [some (.ref 65), some (.int s)]) (st1 := []) rfl rfl fun x26 e27 => ?_
    have e27t : x26.toInt = -2 := by rw [e27]; rfl
    refine aw_ret (v := some (.int x26)) rfl rfl ?_
    exact ⟨J, x26, rfl⟩
theorem q_seen {d : Nat} {w : am_W} (mk sq : Int32) (I : ab_inv ab_TT ab_sets w) : aw none (d + 2) 161 (QS2 w) (0, am_entry 161 [.ref 65, .int mk, .int sq], []) w := by
  have J : ab_J ab_TT ab_sets ab_WR2 w w := ⟨I, ab_fr.rf⟩
  show aw none (d + 2) 161 _ (0, [some (.ref 65), some (.int mk), some (.int sq)], []) w
  refine aw_step (f1 := (1, [some (.ref 65), some (.int mk), some (.int sq)], [(.ref 65)])) (w1 := w) rfl rfl ?_
  refine aw_step (f1 := (2, [some (.ref 65), some (.int mk), some (.int sq)], [(.int mk), (.ref 65)])) (w1 := w) rfl rfl ?_
  refine s_cv (z := 114) (p := 65) (as := [(.int mk)]) (st1 := []) J 5 rfl rfl rfl rfl rfl rfl rfl rfl (Nat.le_of_ble_eq_true rfl) (Nat.le_of_ble_eq_true rfl) (q_isCell mk J.1) ?_
  rintro _ _ ⟨rfl, x1, rfl, x1t⟩
  refine ⟨rfl, ?_⟩
  show aw none _ 161 _ (5, [some (.ref 65), some (.int mk), some (.int sq)], [(.int x1)]) w
  have x1s := szM_in J.1
  refine s_if 10 8 rfl rfl rfl (fun (h2 : ¬ x1.toInt = 0) => ?_) (fun (h2 : ¬ (¬ x1.toInt = 0)) => ?_)
  · --
    refine aw_step (f1 := (11, [some (.ref 65), some (.int mk), some (.int sq)], [(.int sq)])) (w1 := w) rfl rfl ?_
    refine s_l (pc1 := 12) (ls1 := [some (.ref 65), some (.int mk), some (.int sq)]) (st1 := []) rfl rfl fun y3 e4 => ?_
    have e4t : y3.toInt = sq.toInt := by rw [e4]; exact Int32.toInt_toInt64 sq
    refine s_l (pc1 := 13) (ls1 := [some (.ref 65), some (.int mk), some (.int sq)]) (st1 := [(.long y3)]) rfl rfl fun y5 e6 => ?_
    have e6t : y5.toInt = 0 := by rw [e6]; rfl
    refine s_l (pc1 := 16) (ls1 := [some (.ref 65), some (.int mk), some (.int sq)]) (st1 := [(.long y5), (.long y3)]) rfl rfl fun y7 e8 => ?_
    have e8t : y7.toInt = 50 := by rw [e8]; rfl
    refine s_cs (z := 108) (as := [(.long y3), (.long y5), (.long y7)]) (st1 := []) 19 rfl rfl rfl rfl rfl rfl (Nat.le_of_ble_eq_true rfl) (Nat.le_of_ble_eq_true rfl) (Nat.le_of_ble_eq_true rfl) (q_in2 y3 y5 y7) ?_
    rintro _ _ ⟨rfl, x9, rfl, x9t⟩
    refine ⟨rfl, ?_⟩
    show aw none _ 161 _ (19, [some (.ref 65), some (.int mk), some (.int sq)], [(.int x9)]) w
    refine s_if 25 22 rfl rfl rfl (fun (h10 : ¬ x9.toInt = 0) => ?_) (fun (h10 : ¬ (¬ x9.toInt = 0)) => ?_)
    · --
      refine aw_step (f1 := (26, [some (.ref 65), some (.int mk), some (.int sq)], [(.ref 65)])) (w1 := w) rfl rfl ?_
      refine s_gi J 29 rfl rfl rfl rfl rfl rfl fun x11 x11a x11b x11f => ?_
      have h1 := fI_of x11f
      refine s_i (pc1 := 31) (ls1 := [some (.ref 65), some (.int mk), some (.int sq)]) (st1 := [(.int x11)]) rfl rfl fun x12 e13 => ?_
      have e13t : x12.toInt = 8 := by rw [e13]; rfl
      refine s_ic 37 34 rfl rfl rfl (fun (h14 : ¬ x11.toInt = x12.toInt) => ?_) (fun (h14 : ¬ (¬ x11.toInt = x12.toInt)) => ?_)
      · --
        refine aw_step (f1 := (38, [some (.ref 65), some (.int mk), some (.int sq)], [(.ref 65)])) (w1 := w) rfl rfl ?_
        refine s_gr 71 J 41 rfl rfl rfl rfl rfl rfl ?_
        refine aw_step (f1 := (42, [some (.ref 65), some (.int mk), some (.int sq)], [(.ref 65), (.ref 71)])) (w1 := w) rfl rfl ?_
        refine s_gi J 45 rfl rfl rfl rfl rfl rfl fun x15 x15a x15b x15f => ?_
        have h2 := fI_of x15f
        refine aw_step (f1 := (46, [some (.ref 65), some (.int mk), some (.int sq)], [(.int mk), (.int x15), (.ref 71)])) (w1 := w) rfl rfl ?_
        refine s_is J 47 rfl rfl rfl rfl (by omega) (by omega) (by omega) (by omega) fun w16 J17 w16e => ?_
        have so71 := (rI_st J.1 (p := 71) (j := x15.toInt.toNat) rfl (by omega) w16e).1.fIe (p := 65) (k := 14) (by decide)
        refine aw_step (f1 := (48, [some (.ref 65), some (.int mk), some (.int sq)], [(.ref 65)])) (w1 := w16) rfl rfl ?_
        refine s_gr 72 J17 51 rfl rfl rfl rfl rfl rfl ?_
        refine aw_step (f1 := (52, [some (.ref 65), some (.int mk), some (.int sq)], [(.ref 65), (.ref 72)])) (w1 := w16) rfl rfl ?_
        refine s_gi J17 55 rfl rfl rfl rfl rfl rfl fun x18 x18a x18b x18f => ?_
        have h3 := fI_of x18f
        refine aw_step (f1 := (56, [some (.ref 65), some (.int mk), some (.int sq)], [(.int sq), (.int x18), (.ref 72)])) (w1 := w16) rfl rfl ?_
        refine s_is J17 57 rfl rfl rfl rfl (by omega) (by omega) (by omega) (by omega) fun w19 J20 w19e => ?_
        have so72 := (rI_st J17.1 (p := 72) (j := x18.toInt.toNat) rfl (by omega) w19e).1.fIe (p := 65) (k := 14) (by decide)
        refine aw_step (f1 := (58, [some (.ref 65), some (.int mk), some (.int sq)], [(.ref 65)])) (w1 := w19) rfl rfl ?_
        refine aw_step (f1 := (59, [some (.ref 65), some (.int mk), some (.int sq)], [(.ref 65), (.ref 65)])) (w1 := w19) rfl rfl ?_
        refine s_gi J20 62 rfl rfl rfl rfl rfl rfl fun x21 x21a x21b x21f => ?_
        have h4 := fI_of x21f
        refine s_i (pc1 := 63) (ls1 := [some (.ref 65), some (.int mk), some (.int sq)]) (st1 := [(.int x21), (.ref 65)]) rfl rfl fun x22 e23 => ?_
        have e23t : x22.toInt = 1 := by rw [e23]; rfl
        refine s_i (pc1 := 64) (ls1 := [some (.ref 65), some (.int mk), some (.int sq)]) (st1 := [(.ref 65)]) rfl rfl fun x24 e25 => ?_
        have e25 : x24 = x21 + x22 := e25
        have e25t : x24.toInt = x21.toInt + x22.toInt := by rw [e25]; exact n_add (by omega) (by omega)
        refine s_pi J20 67 rfl rfl rfl rfl rfl rfl rfl (by omega) (by omega) fun w26 J27 w26e => ?_
        refine aw_step (f1 := (68, [some (.ref 65), some (.int mk), some (.int sq)], [(.ref 65)])) (w1 := w26) rfl rfl ?_
        refine s_gi J27 71 rfl rfl rfl rfl rfl rfl fun x28 x28a x28b x28f => ?_
        refine aw_ret (v := some (.int x28)) rfl rfl ?_
        exact ⟨J27, x28, rfl⟩
      · --
        refine s_i (pc1 := 36) (ls1 := [some (.ref 65), some (.int mk), some (.int sq)]) (st1 := []) rfl rfl fun x29 e30 => ?_
        have e30t : x29.toInt = -4 := by rw [e30]; rfl
        refine aw_ret (v := some (.int x29)) rfl rfl ?_
        exact ⟨J, x29, rfl⟩
    · --
      refine s_i (pc1 := 24) (ls1 := [some (.ref 65), some (.int mk), some (.int sq)]) (st1 := []) rfl rfl fun x31 e32 => ?_
      have e32t : x31.toInt = -2 := by rw [e32]; rfl
      refine aw_ret (v := some (.int x31)) rfl rfl ?_
      exact ⟨J, x31, rfl⟩
  · --
    refine s_i (pc1 := 9) (ls1 := [some (.ref 65), some (.int mk), some (.int sq)]) (st1 := []) rfl rfl fun x33 e34 => ?_
    have e34t : x33.toInt = -1 := by rw [e34]; rfl
    refine aw_ret (v := some (.int x33)) rfl rfl ?_
    exact ⟨J, x33, rfl⟩
theorem q_within {d : Nat} {w : am_W} (x a b : Int32) : aw none d 102 (fun r w1 => w = w1 ∧ ∃ z : Int32, r = some (.int z) ∧ ((z.toInt = 1 ∧ a.toInt ≤ x.toInt ∧ x.toInt ≤ b.toInt) ∨ (z.toInt = 0 ∧ (x.toInt < a.toInt ∨ b.toInt < x.toInt)))) (0, am_entry 102 [.int x, .int a, .int b], []) w := by
  show aw none d 102 _ (0, [some (.int x), some (.int a), some (.int b)], []) w
  refine aw_step (f1 := (1, [some (.int x), some (.int a), some (.int b)], [(.int x)])) (w1 := w) rfl rfl ?_
  refine aw_step (f1 := (2, [some (.int x), some (.int a), some (.int b)], [(.int a), (.int x)])) (w1 := w) rfl rfl ?_
  refine s_ic 14 5 rfl rfl rfl (fun (h1 : x.toInt < a.toInt) => ?_) (fun (h1 : ¬ (x.toInt < a.toInt)) => ?_)
  · --
    refine s_i (pc1 := 15) (ls1 := [some (.int x), some (.int a), some (.int b)]) (st1 := []) rfl rfl fun x2 e3 => ?_
    have e3t : x2.toInt = 0 := by rw [e3]; rfl
    refine aw_ret (v := some (.int x2)) rfl (am_retz (by omega)) ?_
    exact ⟨rfl, x2, rfl, by omega⟩
  · --
    refine aw_step (f1 := (6, [some (.int x), some (.int a), some (.int b)], [(.int x)])) (w1 := w) rfl rfl ?_
    refine aw_step (f1 := (7, [some (.int x), some (.int a), some (.int b)], [(.int b), (.int x)])) (w1 := w) rfl rfl ?_
    refine s_ic 14 10 rfl rfl rfl (fun (h4 : b.toInt < x.toInt) => ?_) (fun (h4 : ¬ (b.toInt < x.toInt)) => ?_)
    · --
      refine s_i (pc1 := 15) (ls1 := [some (.int x), some (.int a), some (.int b)]) (st1 := []) rfl rfl fun x5 e6 => ?_
      have e6t : x5.toInt = 0 := by rw [e6]; rfl
      refine aw_ret (v := some (.int x5)) rfl (am_retz (by omega)) ?_
      exact ⟨rfl, x5, rfl, by omega⟩
    · --
      refine s_i (pc1 := 11) (ls1 := [some (.int x), some (.int a), some (.int b)]) (st1 := []) rfl rfl fun x7 e8 => ?_
      have e8t : x7.toInt = 1 := by rw [e8]; rfl
      refine aw_step (f1 := (15, [some (.int x), some (.int a), some (.int b)], [(.int x7)])) (w1 := w) rfl rfl ?_
      refine aw_ret (v := some (.int x7)) rfl (am_retz (by omega)) ?_
      exact ⟨rfl, x7, rfl, by omega⟩
/-- the class's size -/
noncomputable def szC (w : am_W) : Int := fI w 3 0 * fI w 3 1
theorem szC_in {w : am_W} (I : ab_inv ab_TT ab_sets w) : 1 ≤ szC w ∧ szC w ≤ 36 := by
  have h1 := fI_in (p := 3) (k := 0) I rfl rfl
  have h2 := fI_in (p := 3) (k := 1) I rfl rfl
  exact m6 h1.1 h1.2 h2.1 h2.2
theorem q_size {d : Nat} {w : am_W} (I : ab_inv ab_TT ab_sets w) : aw none d 38 (fun r w1 => w = w1 ∧ ∃ b : Int32, r = some (.int b) ∧ b.toInt = szC w) (0, am_entry 38 [.ref 3], []) w := by
  have J : ab_J ab_TT ab_sets ab_WR2 w w := ⟨I, ab_fr.rf⟩
  show aw none d 38 _ (0, [some (.ref 3)], []) w
  refine aw_step (f1 := (1, [some (.ref 3)], [(.ref 3)])) (w1 := w) rfl rfl ?_
  refine s_gi J 4 rfl rfl rfl rfl rfl rfl fun x1 x1a x1b x1f => ?_
  refine aw_step (f1 := (5, [some (.ref 3)], [(.ref 3), (.int x1)])) (w1 := w) rfl rfl ?_
  refine s_gi J 8 rfl rfl rfl rfl rfl rfl fun x2 x2a x2b x2f => ?_
  refine s_i (pc1 := 9) (ls1 := [some (.ref 3)]) (st1 := []) rfl rfl fun x3 e4 => ?_
  have e4 : x3 = x1 * x2 := e4
  have hm := m6 x1a x1b x2a x2b
  have hz : x3.toInt = szC w := by rw [e4, n_mul (by omega) (by omega)]; unfold szC; rw [fI_of x1f, fI_of x2f]
  refine aw_ret (v := some (.int x3)) rfl rfl ?_
  exact ⟨rfl, x3, rfl, hz⟩
theorem q_hasCell {d : Nat} {w : am_W} (c : Int32) (I : ab_inv ab_TT ab_sets w) : aw none (d + 1) 39 (fun r w1 => w = w1 ∧ ∃ b : Int32, r = some (.int b) ∧ ((b.toInt = 1 ∧ 0 ≤ c.toInt ∧ c.toInt < szC w) ∨ (b.toInt = 0 ∧ (c.toInt < 0 ∨ szC w ≤ c.toInt)))) (0, am_entry 39 [.ref 3, .int c], []) w := by
  have J : ab_J ab_TT ab_sets ab_WR2 w w := ⟨I, ab_fr.rf⟩
  have sz := szC_in I
  show aw none (d + 1) 39 _ (0, [some (.ref 3), some (.int c)], []) w
  refine aw_step (f1 := (1, [some (.ref 3), some (.int c)], [(.int c)])) (w1 := w) rfl rfl ?_
  refine s_i (pc1 := 2) (ls1 := [some (.ref 3), some (.int c)]) (st1 := [(.int c)]) rfl rfl fun x1 e2 => ?_
  have e2t : x1.toInt = 0 := by rw [e2]; rfl
  refine aw_step (f1 := (3, [some (.ref 3), some (.int c)], [(.ref 3), (.int x1), (.int c)])) (w1 := w) rfl rfl ?_
  refine s_cv (z := 38) (p := 3) (as := []) (st1 := [(.int x1), (.int c)]) J 6 rfl rfl rfl rfl rfl rfl rfl rfl (Nat.le_of_ble_eq_true rfl) (Nat.le_of_ble_eq_true rfl) (q_size J.1) ?_
  rintro _ _ ⟨rfl, x3, rfl, x3t⟩
  refine ⟨rfl, ?_⟩
  show aw none _ 39 _ (6, [some (.ref 3), some (.int c)], [(.int x3), (.int x1), (.int c)]) w
  have x3s := szC_in J.1
  refine s_i (pc1 := 7) (ls1 := [some (.ref 3), some (.int c)]) (st1 := [(.int x3), (.int x1), (.int c)]) rfl rfl fun x4 e5 => ?_
  have e5t : x4.toInt = 1 := by rw [e5]; rfl
  refine s_i (pc1 := 8) (ls1 := [some (.ref 3), some (.int c)]) (st1 := [(.int x1), (.int c)]) rfl rfl fun x6 e7 => ?_
  have e7 : x6 = x3 - x4 := e7
  have e7t : x6.toInt = x3.toInt - x4.toInt := by rw [e7]; exact n_sub (by omega) (by omega)
  refine s_cs (z := 102) (as := [(.int c), (.int x1), (.int x6)]) (st1 := []) 11 rfl rfl rfl rfl rfl rfl (Nat.le_of_ble_eq_true rfl) (Nat.le_of_ble_eq_true rfl) (Nat.le_of_ble_eq_true rfl) (q_within c x1 x6) ?_
  rintro _ _ ⟨rfl, x8, rfl, x8t⟩
  refine ⟨rfl, ?_⟩
  show aw none _ 39 _ (11, [some (.ref 3), some (.int c)], [(.int x8)]) w
  refine aw_ret (v := some (.int x8)) rfl (am_retz (by omega)) ?_
  exact ⟨rfl, x8, rfl, by omega⟩
theorem c_say {d : Nat} {w : am_W} (s : Int32) (I : ab_inv ab_TT ab_sets w) : aw none (d + 1) 61 (QS2 w) (0, am_entry 61 [.ref 0, .int s], []) w := by
  have J : ab_J ab_TT ab_sets ab_WR2 w w := ⟨I, ab_fr.rf⟩
  have sz := szC_in I
  show aw none (d + 1) 61 _ (0, [some (.ref 0), some (.int s)], []) w
  refine aw_step (f1 := (1, [some (.ref 0), some (.int s)], [(.int s)])) (w1 := w) rfl rfl ?_
  refine s_i (pc1 := 3) (ls1 := [some (.ref 0), some (.int s)]) (st1 := [(.int s)]) rfl rfl fun x1 e2 => ?_
  have e2t : x1.toInt = 33 := by rw [e2]; rfl
  refine s_i (pc1 := 5) (ls1 := [some (.ref 0), some (.int s)]) (st1 := [(.int x1), (.int s)]) rfl rfl fun x3 e4 => ?_
  have e4t : x3.toInt = 126 := by rw [e4]; rfl
  refine s_cs (z := 102) (as := [(.int s), (.int x1), (.int x3)]) (st1 := []) 8 rfl rfl rfl rfl rfl rfl (Nat.le_of_ble_eq_true rfl) (Nat.le_of_ble_eq_true rfl) (Nat.le_of_ble_eq_true rfl) (q_within s x1 x3) ?_
  rintro _ _ ⟨rfl, x5, rfl, x5t⟩
  refine ⟨rfl, ?_⟩
  show aw none _ 61 _ (8, [some (.ref 0), some (.int s)], [(.int x5)]) w
  refine s_if 14 11 rfl rfl rfl (fun (h6 : ¬ x5.toInt = 0) => ?_) (fun (h6 : ¬ (¬ x5.toInt = 0)) => ?_)
  · --
    refine aw_step (f1 := (15, [some (.ref 0), some (.int s)], [(.ref 0)])) (w1 := w) rfl rfl ?_
    refine s_gr 1 J 18 rfl rfl rfl rfl rfl rfl ?_
    refine s_gi J 21 rfl rfl rfl rfl rfl rfl fun x7 x7a x7b x7f => ?_
    have h1 := fI_of x7f
    refine s_i (pc1 := 23) (ls1 := [some (.ref 0), some (.int s)]) (st1 := [(.int x7)]) rfl rfl fun x8 e9 => ?_
    have e9t : x8.toInt = 60 := by rw [e9]; rfl
    refine s_ic 29 26 rfl rfl rfl (fun (h10 : x7.toInt < x8.toInt) => ?_) (fun (h10 : ¬ (x7.toInt < x8.toInt)) => ?_)
    · --
      refine aw_step (f1 := (30, [some (.ref 0), some (.int s)], [(.ref 0)])) (w1 := w) rfl rfl ?_
      refine s_gr 1 J 33 rfl rfl rfl rfl rfl rfl ?_
      refine s_gr 2 J 36 rfl rfl rfl rfl rfl rfl ?_
      refine aw_step (f1 := (37, [some (.ref 0), some (.int s)], [(.ref 0), (.ref 2)])) (w1 := w) rfl rfl ?_
      refine s_gr 1 J 40 rfl rfl rfl rfl rfl rfl ?_
      refine s_gi J 43 rfl rfl rfl rfl rfl rfl fun x11 x11a x11b x11f => ?_
      have h2 := fI_of x11f
      refine aw_step (f1 := (44, [some (.ref 0), some (.int s)], [(.int s), (.int x11), (.ref 2)])) (w1 := w) rfl rfl ?_
      refine s_is J 45 rfl rfl rfl rfl (by omega) (by omega) (by omega) (by omega) fun w12 J13 w12e => ?_
      have so2 := (rI_st J.1 (p := 2) (j := x11.toInt.toNat) rfl (by omega) w12e).1.fIe (p := 1) (k := 1) (by decide)
      refine aw_step (f1 := (46, [some (.ref 0), some (.int s)], [(.ref 0)])) (w1 := w12) rfl rfl ?_
      refine s_gr 1 J13 49 rfl rfl rfl rfl rfl rfl ?_
      refine aw_step (f1 := (50, [some (.ref 0), some (.int s)], [(.ref 1), (.ref 1)])) (w1 := w12) rfl rfl ?_
      refine s_gi J13 53 rfl rfl rfl rfl rfl rfl fun x14 x14a x14b x14f => ?_
      have h3 := fI_of x14f
      refine s_i (pc1 := 54) (ls1 := [some (.ref 0), some (.int s)]) (st1 := [(.int x14), (.ref 1)]) rfl rfl fun x15 e16 => ?_
      have e16t : x15.toInt = 1 := by rw [e16]; rfl
      refine s_i (pc1 := 55) (ls1 := [some (.ref 0), some (.int s)]) (st1 := [(.ref 1)]) rfl rfl fun x17 e18 => ?_
      have e18 : x17 = x14 + x15 := e18
      have e18t : x17.toInt = x14.toInt + x15.toInt := by rw [e18]; exact n_add (by omega) (by omega)
      refine s_pi J13 58 rfl rfl rfl rfl rfl rfl rfl (by omega) (by omega) fun w19 J20 w19e => ?_
      refine aw_step (f1 := (59, [some (.ref 0), some (.int s)], [(.ref 0)])) (w1 := w19) rfl rfl ?_
      refine s_gr 1 J20 62 rfl rfl rfl rfl rfl rfl ?_
      refine s_gi J20 65 rfl rfl rfl rfl rfl rfl fun x21 x21a x21b x21f => ?_
      refine aw_ret (v := some (.int x21)) rfl rfl ?_
      exact ⟨J20, x21, rfl⟩
    · --
      refine s_i (pc1 := 28) (ls1 := [some (.ref 0), some (.int s)]) (st1 := []) rfl rfl fun x22 e23 => ?_
      have e23t : x22.toInt = -4 := by rw [e23]; rfl
      refine aw_ret (v := some (.int x22)) rfl rfl ?_
      exact ⟨J, x22, rfl⟩
  · --
    refine s_i (pc1 := 13) (ls1 := [some (.ref 0), some (.int s)]) (st1 := []) rfl rfl fun x24 e25 => ?_
    have e25t : x24.toInt = -2 := by rw [e25]; rfl
    refine aw_ret (v := some (.int x24)) rfl rfl ?_
    exact ⟨J, x24, rfl⟩
theorem c_seen {d : Nat} {w : am_W} (mk sq : Int32) (I : ab_inv ab_TT ab_sets w) : aw none (d + 2) 83 (QS2 w) (0, am_entry 83 [.ref 0, .int mk, .int sq], []) w := by
  have J : ab_J ab_TT ab_sets ab_WR2 w w := ⟨I, ab_fr.rf⟩
  have sz := szC_in I
  show aw none (d + 2) 83 _ (0, [some (.ref 0), some (.int mk), some (.int sq)], []) w
  refine aw_step (f1 := (1, [some (.ref 0), some (.int mk), some (.int sq)], [(.ref 0)])) (w1 := w) rfl rfl ?_
  refine s_gr 3 J 4 rfl rfl rfl rfl rfl rfl ?_
  refine aw_step (f1 := (5, [some (.ref 0), some (.int mk), some (.int sq)], [(.int mk), (.ref 3)])) (w1 := w) rfl rfl ?_
  refine s_cv (z := 39) (p := 3) (as := [(.int mk)]) (st1 := []) J 8 rfl rfl rfl rfl rfl rfl rfl rfl (Nat.le_of_ble_eq_true rfl) (Nat.le_of_ble_eq_true rfl) (q_hasCell mk J.1) ?_
  rintro _ _ ⟨rfl, x1, rfl, x1t⟩
  refine ⟨rfl, ?_⟩
  show aw none _ 83 _ (8, [some (.ref 0), some (.int mk), some (.int sq)], [(.int x1)]) w
  refine s_if 13 11 rfl rfl rfl (fun (h2 : ¬ x1.toInt = 0) => ?_) (fun (h2 : ¬ (¬ x1.toInt = 0)) => ?_)
  · --
    refine aw_step (f1 := (14, [some (.ref 0), some (.int mk), some (.int sq)], [(.int sq)])) (w1 := w) rfl rfl ?_
    refine s_i (pc1 := 15) (ls1 := [some (.ref 0), some (.int mk), some (.int sq)]) (st1 := [(.int sq)]) rfl rfl fun x3 e4 => ?_
    have e4t : x3.toInt = 0 := by rw [e4]; rfl
    refine s_i (pc1 := 17) (ls1 := [some (.ref 0), some (.int mk), some (.int sq)]) (st1 := [(.int x3), (.int sq)]) rfl rfl fun x5 e6 => ?_
    have e6t : x5.toInt = 50 := by rw [e6]; rfl
    refine s_cs (z := 102) (as := [(.int sq), (.int x3), (.int x5)]) (st1 := []) 20 rfl rfl rfl rfl rfl rfl (Nat.le_of_ble_eq_true rfl) (Nat.le_of_ble_eq_true rfl) (Nat.le_of_ble_eq_true rfl) (q_within sq x3 x5) ?_
    rintro _ _ ⟨rfl, x7, rfl, x7t⟩
    refine ⟨rfl, ?_⟩
    show aw none _ 83 _ (20, [some (.ref 0), some (.int mk), some (.int sq)], [(.int x7)]) w
    refine s_if 26 23 rfl rfl rfl (fun (h8 : ¬ x7.toInt = 0) => ?_) (fun (h8 : ¬ (¬ x7.toInt = 0)) => ?_)
    · --
      refine aw_step (f1 := (27, [some (.ref 0), some (.int mk), some (.int sq)], [(.ref 0)])) (w1 := w) rfl rfl ?_
      refine s_gr 3 J 30 rfl rfl rfl rfl rfl rfl ?_
      refine s_gi J 33 rfl rfl rfl rfl rfl rfl fun x9 x9a x9b x9f => ?_
      have h1 := fI_of x9f
      refine s_i (pc1 := 35) (ls1 := [some (.ref 0), some (.int mk), some (.int sq)]) (st1 := [(.int x9)]) rfl rfl fun x10 e11 => ?_
      have e11t : x10.toInt = 8 := by rw [e11]; rfl
      refine s_ic 41 38 rfl rfl rfl (fun (h12 : x9.toInt < x10.toInt) => ?_) (fun (h12 : ¬ (x9.toInt < x10.toInt)) => ?_)
      · --
        refine aw_step (f1 := (42, [some (.ref 0), some (.int mk), some (.int sq)], [(.ref 0)])) (w1 := w) rfl rfl ?_
        refine s_gr 3 J 45 rfl rfl rfl rfl rfl rfl ?_
        refine s_gr 12 J 48 rfl rfl rfl rfl rfl rfl ?_
        refine aw_step (f1 := (49, [some (.ref 0), some (.int mk), some (.int sq)], [(.ref 0), (.ref 12)])) (w1 := w) rfl rfl ?_
        refine s_gr 3 J 52 rfl rfl rfl rfl rfl rfl ?_
        refine s_gi J 55 rfl rfl rfl rfl rfl rfl fun x13 x13a x13b x13f => ?_
        have h2 := fI_of x13f
        refine aw_step (f1 := (56, [some (.ref 0), some (.int mk), some (.int sq)], [(.int mk), (.int x13), (.ref 12)])) (w1 := w) rfl rfl ?_
        refine s_is J 57 rfl rfl rfl rfl (by omega) (by omega) (by omega) (by omega) fun w14 J15 w14e => ?_
        have so12 := (rI_st J.1 (p := 12) (j := x13.toInt.toNat) rfl (by omega) w14e).1.fIe (p := 3) (k := 4) (by decide)
        refine aw_step (f1 := (58, [some (.ref 0), some (.int mk), some (.int sq)], [(.ref 0)])) (w1 := w14) rfl rfl ?_
        refine s_gr 3 J15 61 rfl rfl rfl rfl rfl rfl ?_
        refine s_gr 13 J15 64 rfl rfl rfl rfl rfl rfl ?_
        refine aw_step (f1 := (65, [some (.ref 0), some (.int mk), some (.int sq)], [(.ref 0), (.ref 13)])) (w1 := w14) rfl rfl ?_
        refine s_gr 3 J15 68 rfl rfl rfl rfl rfl rfl ?_
        refine s_gi J15 71 rfl rfl rfl rfl rfl rfl fun x16 x16a x16b x16f => ?_
        have h3 := fI_of x16f
        refine aw_step (f1 := (72, [some (.ref 0), some (.int mk), some (.int sq)], [(.int sq), (.int x16), (.ref 13)])) (w1 := w14) rfl rfl ?_
        refine s_is J15 73 rfl rfl rfl rfl (by omega) (by omega) (by omega) (by omega) fun w17 J18 w17e => ?_
        have so13 := (rI_st J15.1 (p := 13) (j := x16.toInt.toNat) rfl (by omega) w17e).1.fIe (p := 3) (k := 4) (by decide)
        refine aw_step (f1 := (74, [some (.ref 0), some (.int mk), some (.int sq)], [(.ref 0)])) (w1 := w17) rfl rfl ?_
        refine s_gr 3 J18 77 rfl rfl rfl rfl rfl rfl ?_
        refine aw_step (f1 := (78, [some (.ref 0), some (.int mk), some (.int sq)], [(.ref 3), (.ref 3)])) (w1 := w17) rfl rfl ?_
        refine s_gi J18 81 rfl rfl rfl rfl rfl rfl fun x19 x19a x19b x19f => ?_
        have h4 := fI_of x19f
        refine s_i (pc1 := 82) (ls1 := [some (.ref 0), some (.int mk), some (.int sq)]) (st1 := [(.int x19), (.ref 3)]) rfl rfl fun x20 e21 => ?_
        have e21t : x20.toInt = 1 := by rw [e21]; rfl
        refine s_i (pc1 := 83) (ls1 := [some (.ref 0), some (.int mk), some (.int sq)]) (st1 := [(.ref 3)]) rfl rfl fun x22 e23 => ?_
        have e23 : x22 = x19 + x20 := e23
        have e23t : x22.toInt = x19.toInt + x20.toInt := by rw [e23]; exact n_add (by omega) (by omega)
        refine s_pi J18 86 rfl rfl rfl rfl rfl rfl rfl (by omega) (by omega) fun w24 J25 w24e => ?_
        refine aw_step (f1 := (87, [some (.ref 0), some (.int mk), some (.int sq)], [(.ref 0)])) (w1 := w24) rfl rfl ?_
        refine s_gr 3 J25 90 rfl rfl rfl rfl rfl rfl ?_
        refine s_gi J25 93 rfl rfl rfl rfl rfl rfl fun x26 x26a x26b x26f => ?_
        refine aw_ret (v := some (.int x26)) rfl rfl ?_
        exact ⟨J25, x26, rfl⟩
      · --
        refine s_i (pc1 := 40) (ls1 := [some (.ref 0), some (.int mk), some (.int sq)]) (st1 := []) rfl rfl fun x27 e28 => ?_
        have e28t : x27.toInt = -4 := by rw [e28]; rfl
        refine aw_ret (v := some (.int x27)) rfl rfl ?_
        exact ⟨J, x27, rfl⟩
    · --
      refine s_i (pc1 := 25) (ls1 := [some (.ref 0), some (.int mk), some (.int sq)]) (st1 := []) rfl rfl fun x29 e30 => ?_
      have e30t : x29.toInt = -2 := by rw [e30]; rfl
      refine aw_ret (v := some (.int x29)) rfl rfl ?_
      exact ⟨J, x29, rfl⟩
  · --
    refine s_i (pc1 := 12) (ls1 := [some (.ref 0), some (.int mk), some (.int sq)]) (st1 := []) rfl rfl fun x31 e32 => ?_
    have e32t : x31.toInt = -1 := by rw [e32]; rfl
    refine aw_ret (v := some (.int x31)) rfl rfl ?_
    exact ⟨J, x31, rfl⟩
