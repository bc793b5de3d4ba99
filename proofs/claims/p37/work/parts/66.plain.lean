/-! ===== what the plain calls do ===== -/
theorem upv_id {V : Nat → Int} {k : Nat} {x : Int} (h : V k = x) : upv V k x = V := funext fun j => by
  by_cases e : j = k
  · subst e; rw [upv_s, h]
  · rw [upv_n e]
theorem upv_c {V : Nat → Int} {a b : Nat} {x y : Int} (h : a ≠ b) : upv (upv V a x) b y = upv (upv V b y) a x := funext fun j => by
  unfold upv
  by_cases e : j = b
  · rw [if_pos e, if_neg (by omega), if_pos e]
  · rw [if_neg e]
    by_cases f : j = a
    · rw [if_pos f, if_pos f]
    · rw [if_neg f, if_neg f, if_neg e]
noncomputable def hmP (V : Nat → Int) (c b : Int) (V' : Nat → Int) : Prop := (b = -1 ∧ (c < 0 ∨ szV V ≤ c) ∧ V' = V) ∨ (b = -3 ∧ (0 ≤ c ∧ c < szV V) ∧ V (40 + c.toNat) = 126 ∧ V' = V) ∨ (b = V 2 ∧ (0 ≤ c ∧ c < szV V) ∧ V (40 + c.toNat) ≠ 126 ∧ V' = upv V 2 c)
noncomputable def chV (x : Int) (c : Int32) (m : Int) : Int := if m = 0 then (Int64.ofInt x &&& ((1 <<< (c.toInt64 &&& 63)) ^^^ (-1))).toInt else (Int64.ofInt x ||| (1 <<< (c.toInt64 &&& 63))).toInt
noncomputable def cgP (V : Nat → Int) (c : Int32) (m b : Int) (V' : Nat → Int) : Prop := (b = -1 ∧ (c.toInt < 0 ∨ szV V ≤ c.toInt) ∧ V' = V) ∨ (b = -3 ∧ (0 ≤ c.toInt ∧ c.toInt < szV V) ∧ V (40 + c.toInt.toNat) = 126 ∧ V' = V) ∨ (b = 1 ∧ (0 ≤ c.toInt ∧ c.toInt < szV V) ∧ V (40 + c.toInt.toNat) ≠ 126 ∧ V' = upv V 3 (chV (V 3) c m))
noncomputable def btP (V : Nat → Int) (b k v z : Int) (V' : Nat → Int) : Prop := (z = -1 ∧ (b < 0 ∨ 3 < b) ∧ V' = V) ∨ (z = -2 ∧ (0 ≤ b ∧ b ≤ 3) ∧ (¬ k = 0 ∨ v < 1 ∨ 50 < v) ∧ (¬ k = 1 ∨ v < 0 ∨ 99 < v) ∧ V' = V) ∨ (z = V (8 + 4 * b.toNat + 0) ∧ (0 ≤ b ∧ b ≤ 3) ∧ (k = 0 ∧ 1 ≤ v ∧ v ≤ 50) ∧ V' = upv V (8 + 4 * b.toNat + 0) v) ∨ (z = V (8 + 4 * b.toNat + 1) ∧ (0 ≤ b ∧ b ≤ 3) ∧ (k = 1 ∧ 0 ≤ v ∧ v ≤ 99) ∧ V' = upv V (8 + 4 * b.toNat + 1) v)
noncomputable def mnP (V : Nat → Int) (k v z : Int) (V' : Nat → Int) : Prop := (z = -2 ∧ ((k < 0 ∨ 1 < k) ∨ v < 1 ∨ 9 < v) ∧ V' = V) ∨ (z = V 4 ∧ (k = 0 ∧ 1 ≤ v ∧ v ≤ 9) ∧ V' = upv V 4 v) ∨ (z = V 5 ∧ (k = 1 ∧ 1 ≤ v ∧ v ≤ 9) ∧ V' = upv V 5 v)
noncomputable def psP (V : Nat → Int) (p c b z : Int) (V' : Nat → Int) : Prop := (z = -1 ∧ ((p < 0 ∨ 3 < p) ∨ (c < 0 ∨ szV V ≤ c ∨ V (40 + c.toNat) = 126) ∨ b < 0 ∨ 3 < b) ∧ V' = V) ∨ (z = cnt (po (V 6) p).toNat 64 ∧ (0 ≤ p ∧ p ≤ 3) ∧ (0 ≤ c ∧ c < szV V ∧ V (40 + c.toNat) ≠ 126) ∧ (0 ≤ b ∧ b ≤ 3) ∧ V' = upv (upv (upv V 6 (po (V 6) p)) (8 + 4 * p.toNat + 2) c) (8 + 4 * p.toNat + 3) b)
noncomputable def lvP (V : Nat → Int) (p z : Int) (V' : Nat → Int) : Prop := (z = -1 ∧ ((p < 0 ∨ 3 < p) ∨ bt (V 6).toNat p.toNat = 0) ∧ V' = V) ∨ (z = cnt (pa (V 6) p).toNat 64 ∧ (0 ≤ p ∧ p ≤ 3) ∧ bt (V 6).toNat p.toNat = 1 ∧ V' = upv V 6 (pa (V 6) p))
noncomputable def snP (V : Nat → Int) (m s z : Int) (V' : Nat → Int) : Prop := (z = -1 ∧ (m < 0 ∨ szV V ≤ m) ∧ V' = V) ∨ (z = -2 ∧ (0 ≤ m ∧ m < szV V) ∧ (s < 0 ∨ 50 < s) ∧ V' = V) ∨ (z = -4 ∧ (0 ≤ m ∧ m < szV V) ∧ (0 ≤ s ∧ s ≤ 50) ∧ V 7 = 8 ∧ V' = V) ∨ (z = V 7 + 1 ∧ (0 ≤ m ∧ m < szV V) ∧ (0 ≤ s ∧ s ≤ 50) ∧ V 7 < 8 ∧ V' = upv (upv (upv V (24 + 2 * (V 7).toNat + 0) m) (24 + 2 * (V 7).toNat + 1) s) 7 (V 7 + 1))
noncomputable def fgP (V : Nat → Int) (z : Int) (V' : Nat → Int) : Prop := z = V 7 ∧ V' = upv V 7 0
noncomputable def syP (n : Int) (P : Nat → Int) (s z n' : Int) (P' : Nat → Int) : Prop := (z = -2 ∧ (s < 33 ∨ 126 < s) ∧ n' = n ∧ P' = P) ∨ (z = -4 ∧ (33 ≤ s ∧ s ≤ 126) ∧ n = 60 ∧ n' = n ∧ P' = P) ∨ (z = n + 1 ∧ (33 ≤ s ∧ s ≤ 126) ∧ n < 60 ∧ n' = n + 1 ∧ P' = upv P n.toNat s)
/-! the pads -/
noncomputable def RCp (w : am_W) (n : Int) (P : Nat → Int) : Prop := fI w 1 1 = n ∧ ∀ j : Nat, rI w 2 j = P j
noncomputable def RMp (w : am_W) (n : Int) (P : Nat → Int) : Prop := fI w 65 16 = n ∧ ∀ j : Nat, rI w 73 j = P j
noncomputable def cS : List Nat := [3, 4, 5, 6, 7, 8, 9, 10, 11, 12, 13]
noncomputable def mS : List Nat := [65, 66, 67, 68, 69, 70, 71, 72]
noncomputable def QC (w : am_W) (P : Int → (Nat → Int) → Prop) : Option Value → am_W → Prop := fun r w1 => ab_inv ab_TT ab_sets w1 ∧ only cS w w1 ∧ ∃ b : Int32, r = some (.int b) ∧ ∃ V', RCs w1 3 V' ∧ P b.toInt V'
noncomputable def QM (w : am_W) (P : Int → (Nat → Int) → Prop) : Option Value → am_W → Prop := fun r w1 => ab_inv ab_TT ab_sets w1 ∧ only mS w w1 ∧ fI w1 65 16 = fI w 65 16 ∧ ∃ b : Int32, r = some (.int b) ∧ ∃ V', RMs w1 V' ∧ P b.toInt V'
noncomputable def QCp (w : am_W) (P : Int → Int → (Nat → Int) → Prop) : Option Value → am_W → Prop := fun r w1 => ab_inv ab_TT ab_sets w1 ∧ only [1, 2] w w1 ∧ ∃ b : Int32, r = some (.int b) ∧ ∃ n' P', RCp w1 n' P' ∧ P b.toInt n' P'
noncomputable def QMp (w : am_W) (V : Nat → Int) (P : Int → Int → (Nat → Int) → Prop) : Option Value → am_W → Prop := fun r w1 => ab_inv ab_TT ab_sets w1 ∧ only [65, 73] w w1 ∧ RMs w1 V ∧ ∃ b : Int32, r = some (.int b) ∧ ∃ n' P', RMp w1 n' P' ∧ P b.toInt n' P'
theorem RMs.pad {w w1 : am_W} {V : Nat → Int} {v : Value} (R : RMs w V) (f : only [65] w w1 ∧ am_fv w1 65 16 = some v ∧ ∀ k, k ≠ 16 → am_fv w1 65 k = am_fv w 65 k) : RMs w1 V := by
  intro j hj
  rw [← R j hj]
  exact fld_e (fun k h _ _ _ _ _ _ _ _ => f.2.2 k h) (fun q i a b => f.1.rIe (by simp only [List.mem_singleton]; omega)) j
theorem q_isPerson {d : Nat} {w : am_W} (c : Int32) : aw none (d + 1) 156 (fun r w1 => w = w1 ∧ ∃ b : Int32, r = some (.int b) ∧ ((b.toInt = 1 ∧ 0 ≤ c.toInt ∧ c.toInt ≤ 3) ∨ (b.toInt = 0 ∧ (c.toInt < 0 ∨ 3 < c.toInt)))) (0, am_entry 156 [.ref 65, .int c], []) w := by
  show aw none (d + 1) 156 _ (0, [some (.ref 65), some (.int c)], []) w
  refine aw_step (f1 := (1, [some (.ref 65), some (.int c)], [(.int c)])) (w1 := w) rfl rfl ?_
  refine s_l (pc1 := 2) (ls1 := [some (.ref 65), some (.int c)]) (st1 := []) rfl rfl fun y1 e2 => ?_
  have e2t : y1.toInt = c.toInt := by rw [e2]; exact Int32.toInt_toInt64 c
  refine s_l (pc1 := 3) (ls1 := [some (.ref 65), some (.int c)]) (st1 := [(.long y1)]) rfl rfl fun y3 e4 => ?_
  have e4t : y3.toInt = 0 := by rw [e4]; rfl
  refine s_l (pc1 := 6) (ls1 := [some (.ref 65), some (.int c)]) (st1 := [(.long y3), (.long y1)]) rfl rfl fun y5 e6 => ?_
  have e6t : y5.toInt = 3 := by rw [e6]; rfl
  refine s_cs (z := 108) (as := [(.long y1), (.long y3), (.long y5)]) (st1 := []) 9 rfl rfl rfl rfl rfl rfl (Nat.le_of_ble_eq_true rfl) (Nat.le_of_ble_eq_true rfl) (Nat.le_of_ble_eq_true rfl) (q_in2 y1 y3 y5) ?_
  rintro _ _ ⟨rfl, x7, rfl, x7t⟩
  refine ⟨rfl, ?_⟩
  show aw none _ 156 _ (9, [some (.ref 65), some (.int c)], [(.int x7)]) w
  refine aw_ret (v := some (.int x7)) rfl (am_retz (by omega)) ?_
  exact ⟨rfl, x7, rfl, by omega⟩
theorem e_home {d : Nat} {w : am_W} {V : Nat → Int} (R : RCs w 3 V) (c : Int32) (I : ab_inv ab_TT ab_sets w) : aw none (d + 3) 66 (QC w (fun z V1 => hmP V c.toInt z V1)) (0, am_entry 66 [.ref 0, .int c], []) w := by
  have J : ab_J ab_TT ab_sets ab_WR2 w w := ⟨I, ab_fr.rf⟩
  have sz := szC_in I
  have hs := R.sz
  have r2 := R.f2
  have r3 := R.f3
  have r4 := R.f4
  have r6 := R.f6
  show aw none (d + 3) 66 _ (0, [some (.ref 0), some (.int c), none], []) w
  refine aw_step (f1 := (1, [some (.ref 0), some (.int c), none], [(.ref 0)])) (w1 := w) rfl rfl ?_
  refine s_gr 3 J 4 rfl rfl rfl rfl rfl rfl ?_
  refine aw_step (f1 := (5, [some (.ref 0), some (.int c), none], [(.int c), (.ref 3)])) (w1 := w) rfl rfl ?_
  refine s_cv (z := 39) (p := 3) (as := [(.int c)]) (st1 := []) J 8 rfl rfl rfl rfl rfl rfl rfl rfl (Nat.le_of_ble_eq_true rfl) (Nat.le_of_ble_eq_true rfl) (q_hasCell c J.1) ?_
  rintro _ _ ⟨rfl, x1, rfl, x1t⟩
  refine ⟨rfl, ?_⟩
  show aw none _ 66 _ (8, [some (.ref 0), some (.int c), none], [(.int x1)]) w
  refine s_if 13 11 rfl rfl rfl (fun (h2 : ¬ x1.toInt = 0) => ?_) (fun (h2 : ¬ (¬ x1.toInt = 0)) => ?_)
  · --
    refine aw_step (f1 := (14, [some (.ref 0), some (.int c), none], [(.ref 0)])) (w1 := w) rfl rfl ?_
    refine s_gr 3 J 17 rfl rfl rfl rfl rfl rfl ?_
    refine aw_step (f1 := (18, [some (.ref 0), some (.int c), none], [(.int c), (.ref 3)])) (w1 := w) rfl rfl ?_
    refine s_cv (z := 40) (p := 3) (as := [(.int c)]) (st1 := []) J 21 rfl rfl rfl rfl rfl rfl rfl rfl (Nat.le_of_ble_eq_true rfl) (Nat.le_of_ble_eq_true rfl) (q_isDry R c J.1) ?_
    rintro _ _ ⟨rfl, x3, rfl, x3t⟩
    refine ⟨rfl, ?_⟩
    show aw none _ 66 _ (21, [some (.ref 0), some (.int c), none], [(.int x3)]) w
    refine s_if 27 24 rfl rfl rfl (fun (h4 : ¬ x3.toInt = 0) => ?_) (fun (h4 : ¬ (¬ x3.toInt = 0)) => ?_)
    · --
      refine aw_step (f1 := (28, [some (.ref 0), some (.int c), none], [(.ref 0)])) (w1 := w) rfl rfl ?_
      refine s_gr 3 J 31 rfl rfl rfl rfl rfl rfl ?_
      refine s_gi J 34 rfl rfl rfl rfl rfl rfl fun x5 x5a x5b x5f => ?_
      have x5v : x5.toInt = fI w 3 2 := by rw [← fI_of x5f]
      refine aw_step (f1 := (35, [some (.ref 0), some (.int c), some (.int x5)], [])) (w1 := w) rfl rfl ?_
      refine aw_step (f1 := (36, [some (.ref 0), some (.int c), some (.int x5)], [(.ref 0)])) (w1 := w) rfl rfl ?_
      refine s_gr 3 J 39 rfl rfl rfl rfl rfl rfl ?_
      refine aw_step (f1 := (40, [some (.ref 0), some (.int c), some (.int x5)], [(.int c), (.ref 3)])) (w1 := w) rfl rfl ?_
      refine s_pi J 43 rfl rfl rfl rfl rfl rfl rfl (by omega) (by omega) fun w6 J7 w6e => ?_
      have w6f := fv_st J.1 (p := 3) (kf := 2) rfl (by decide) w6e
      refine aw_step (f1 := (44, [some (.ref 0), some (.int c), some (.int x5)], [(.int x5)])) (w1 := w6) rfl rfl ?_
      refine aw_ret (v := some (.int x5)) rfl rfl ?_
      exact ⟨J7.1, (w6f.1.sub (by decide)), x5, rfl, _, R.put (q := 2) (by decide) w6f, Or.inr (Or.inr (⟨by omega, ⟨by omega, by omega⟩, by first | omega | (have := hl c; omega), rfl⟩))⟩
    · --
      refine s_i (pc1 := 26) (ls1 := [some (.ref 0), some (.int c), none]) (st1 := []) rfl rfl fun x8 e9 => ?_
      have e9t : x8.toInt = -3 := by rw [e9]; rfl
      refine aw_ret (v := some (.int x8)) rfl rfl ?_
      exact ⟨J.1, only.rf, x8, rfl, _, R, by first | exact Or.inl ⟨by omega, by omega, rfl⟩ | exact Or.inr (Or.inl ⟨by omega, ⟨by omega, by omega⟩, by first | omega | (have := hl c; omega), rfl⟩)⟩
  · --
    refine s_i (pc1 := 12) (ls1 := [some (.ref 0), some (.int c), none]) (st1 := []) rfl rfl fun x10 e11 => ?_
    have e11t : x10.toInt = -1 := by rw [e11]; rfl
    refine aw_ret (v := some (.int x10)) rfl rfl ?_
    exact ⟨J.1, only.rf, x10, rfl, _, R, by first | exact Or.inl ⟨by omega, by omega, rfl⟩ | exact Or.inr (Or.inl ⟨by omega, ⟨by omega, by omega⟩, by first | omega | (have := hl c; omega), rfl⟩)⟩
theorem f_home {d : Nat} {w : am_W} {V : Nat → Int} (R : RMs w V) (c : Int32) (I : ab_inv ab_TT ab_sets w) : aw none (d + 3) 126 (QM w (fun z V1 => hmP V c.toInt z V1)) (0, am_entry 126 [.ref 65, .int c], []) w := by
  have J : ab_J ab_TT ab_sets ab_WR2 w w := ⟨I, ab_fr.rf⟩
  have sz := szM_in I
  have hs := R.sz
  have r2 := R.f2
  have r3 := R.f3
  have r4 := R.f4
  have r5 := R.f5
  have r6 := R.f6
  have r7 := R.f7
  have hl : ∀ c : Int32, 0 ≤ c.toInt → c.toInt < szV V → rI w 66 c.toInt.toNat = V (40 + c.toInt.toNat) := fun c a b => R.rc (by omega)
  show aw none (d + 3) 126 _ (0, [some (.ref 65), some (.int c), none], []) w
  refine aw_step (f1 := (1, [some (.ref 65), some (.int c), none], [(.ref 65)])) (w1 := w) rfl rfl ?_
  refine aw_step (f1 := (2, [some (.ref 65), some (.int c), none], [(.int c), (.ref 65)])) (w1 := w) rfl rfl ?_
  refine s_cv (z := 114) (p := 65) (as := [(.int c)]) (st1 := []) J 5 rfl rfl rfl rfl rfl rfl rfl rfl (Nat.le_of_ble_eq_true rfl) (Nat.le_of_ble_eq_true rfl) (q_isCell c J.1) ?_
  rintro _ _ ⟨rfl, x1, rfl, x1t⟩
  refine ⟨rfl, ?_⟩
  show aw none _ 126 _ (5, [some (.ref 65), some (.int c), none], [(.int x1)]) w
  have x1s := szM_in J.1
  refine s_if 10 8 rfl rfl rfl (fun (h2 : ¬ x1.toInt = 0) => ?_) (fun (h2 : ¬ (¬ x1.toInt = 0)) => ?_)
  · --
    refine aw_step (f1 := (11, [some (.ref 65), some (.int c), none], [(.ref 65)])) (w1 := w) rfl rfl ?_
    refine aw_step (f1 := (12, [some (.ref 65), some (.int c), none], [(.int c), (.ref 65)])) (w1 := w) rfl rfl ?_
    refine s_cv (z := 115) (p := 65) (as := [(.int c)]) (st1 := []) J 15 rfl rfl rfl rfl rfl rfl rfl rfl (Nat.le_of_ble_eq_true rfl) (Nat.le_of_ble_eq_true rfl) (q_isLand c J.1) ?_
    rintro _ _ ⟨rfl, x3, rfl, x3t⟩
    refine ⟨rfl, ?_⟩
    show aw none _ 126 _ (15, [some (.ref 65), some (.int c), none], [(.int x3)]) w
    have x3s := szM_in J.1
    refine s_if 21 18 rfl rfl rfl (fun (h4 : ¬ x3.toInt = 0) => ?_) (fun (h4 : ¬ (¬ x3.toInt = 0)) => ?_)
    · --
      refine aw_step (f1 := (22, [some (.ref 65), some (.int c), none], [(.ref 65)])) (w1 := w) rfl rfl ?_
      refine s_gi J 25 rfl rfl rfl rfl rfl rfl fun x5 x5a x5b x5f => ?_
      have x5v : x5.toInt = fI w 65 3 := by rw [← fI_of x5f]
      refine aw_step (f1 := (26, [some (.ref 65), some (.int c), some (.int x5)], [])) (w1 := w) rfl rfl ?_
      refine aw_step (f1 := (27, [some (.ref 65), some (.int c), some (.int x5)], [(.ref 65)])) (w1 := w) rfl rfl ?_
      refine aw_step (f1 := (28, [some (.ref 65), some (.int c), some (.int x5)], [(.int c), (.ref 65)])) (w1 := w) rfl rfl ?_
      refine s_pi J 31 rfl rfl rfl rfl rfl rfl rfl (by omega) (by omega) fun w6 J7 w6e => ?_
      have w6f := fv_st J.1 (p := 65) (kf := 3) rfl (by decide) w6e
      refine aw_step (f1 := (32, [some (.ref 65), some (.int c), some (.int x5)], [(.int x5)])) (w1 := w6) rfl rfl ?_
      refine aw_ret (v := some (.int x5)) rfl rfl ?_
      exact ⟨J7.1, (w6f.1.sub (by decide)), by rw [fI_eq (w6f.2.2 16 (by decide))], x5, rfl, _, R.put (q := 2) (by decide) (by decide) w6f, Or.inr (Or.inr (⟨by omega, ⟨by omega, by omega⟩, by first | omega | (have := hl c; omega), rfl⟩))⟩
    · --
      refine s_i (pc1 := 20) (ls1 := [some (.ref 65), some (.int c), none]) (st1 := []) rfl rfl fun x8 e9 => ?_
      have e9t : x8.toInt = -3 := by rw [e9]; rfl
      refine aw_ret (v := some (.int x8)) rfl rfl ?_
      exact ⟨J.1, only.rf, rfl, x8, rfl, _, R, by first | exact Or.inl ⟨by omega, by omega, rfl⟩ | exact Or.inr (Or.inl ⟨by omega, ⟨by omega, by omega⟩, by first | omega | (have := hl c; omega), rfl⟩)⟩
  · --
    refine s_i (pc1 := 9) (ls1 := [some (.ref 65), some (.int c), none]) (st1 := []) rfl rfl fun x10 e11 => ?_
    have e11t : x10.toInt = -1 := by rw [e11]; rfl
    refine aw_ret (v := some (.int x10)) rfl rfl ?_
    exact ⟨J.1, only.rf, rfl, x10, rfl, _, R, by first | exact Or.inl ⟨by omega, by omega, rfl⟩ | exact Or.inr (Or.inl ⟨by omega, ⟨by omega, by omega⟩, by first | omega | (have := hl c; omega), rfl⟩)⟩
theorem e_change {d : Nat} {w : am_W} {V : Nat → Int} (R : RCs w 3 V) (c m : Int32) (hm : m.toInt = 0 ∨ m.toInt = 1) (I : ab_inv ab_TT ab_sets w) : aw none (d + 3) 67 (QC w (fun z V1 => cgP V c m.toInt z V1)) (0, am_entry 67 [.ref 0, .int c, .int m], []) w := by
  have J : ab_J ab_TT ab_sets ab_WR2 w w := ⟨I, ab_fr.rf⟩
  have sz := szC_in I
  have hs := R.sz
  have r2 := R.f2
  have r3 := R.f3
  have r4 := R.f4
  have r6 := R.f6
  show aw none (d + 3) 67 _ (0, [some (.ref 0), some (.int c), some (.int m)], []) w
  refine aw_step (f1 := (1, [some (.ref 0), some (.int c), some (.int m)], [(.ref 0)])) (w1 := w) rfl rfl ?_
  refine s_gr 3 J 4 rfl rfl rfl rfl rfl rfl ?_
  refine aw_step (f1 := (5, [some (.ref 0), some (.int c), some (.int m)], [(.int c), (.ref 3)])) (w1 := w) rfl rfl ?_
  refine s_cv (z := 39) (p := 3) (as := [(.int c)]) (st1 := []) J 8 rfl rfl rfl rfl rfl rfl rfl rfl (Nat.le_of_ble_eq_true rfl) (Nat.le_of_ble_eq_true rfl) (q_hasCell c J.1) ?_
  rintro _ _ ⟨rfl, x1, rfl, x1t⟩
  refine ⟨rfl, ?_⟩
  show aw none _ 67 _ (8, [some (.ref 0), some (.int c), some (.int m)], [(.int x1)]) w
  refine s_if 13 11 rfl rfl rfl (fun (h2 : ¬ x1.toInt = 0) => ?_) (fun (h2 : ¬ (¬ x1.toInt = 0)) => ?_)
  · --
    refine aw_step (f1 := (14, [some (.ref 0), some (.int c), some (.int m)], [(.ref 0)])) (w1 := w) rfl rfl ?_
    refine s_gr 3 J 17 rfl rfl rfl rfl rfl rfl ?_
    refine aw_step (f1 := (18, [some (.ref 0), some (.int c), some (.int m)], [(.int c), (.ref 3)])) (w1 := w) rfl rfl ?_
    refine s_cv (z := 40) (p := 3) (as := [(.int c)]) (st1 := []) J 21 rfl rfl rfl rfl rfl rfl rfl rfl (Nat.le_of_ble_eq_true rfl) (Nat.le_of_ble_eq_true rfl) (q_isDry R c J.1) ?_
    rintro _ _ ⟨rfl, x3, rfl, x3t⟩
    refine ⟨rfl, ?_⟩
    show aw none _ 67 _ (21, [some (.ref 0), some (.int c), some (.int m)], [(.int x3)]) w
    refine s_if 27 24 rfl rfl rfl (fun (h4 : ¬ x3.toInt = 0) => ?_) (fun (h4 : ¬ (¬ x3.toInt = 0)) => ?_)
    · --
      refine aw_step (f1 := (28, [some (.ref 0), some (.int c), some (.int m)], [(.ref 0)])) (w1 := w) rfl rfl ?_
      refine s_gr 3 J 31 rfl rfl rfl rfl rfl rfl ?_
      refine aw_step (f1 := (32, [some (.ref 0), some (.int c), some (.int m)], [(.int m), (.ref 3)])) (w1 := w) rfl rfl ?_
      refine s_if 50 35 rfl rfl rfl (fun (h5 : m.toInt = 0) => ?_) (fun (h5 : ¬ (m.toInt = 0)) => ?_)
      · --
        refine aw_step (f1 := (51, [some (.ref 0), some (.int c), some (.int m)], [(.ref 0), (.ref 3)])) (w1 := w) rfl rfl ?_
        refine s_gr 3 J 54 rfl rfl rfl rfl rfl rfl ?_
        refine s_gl J 57 rfl rfl rfl rfl rfl rfl fun y6 y6a y6b y6f => ?_
        refine aw_step (f1 := (58, [some (.ref 0), some (.int c), some (.int m)], [(.int c), (.long y6), (.ref 3)])) (w1 := w) rfl rfl ?_
        refine s_cs (z := 104) (as := [(.int c)]) (st1 := [(.long y6), (.ref 3)]) 61 rfl rfl rfl rfl rfl rfl (Nat.le_of_ble_eq_true rfl) (Nat.le_of_ble_eq_true rfl) (Nat.le_of_ble_eq_true rfl) (q_bit c) ?_
        rintro _ _ ⟨rfl, y7, rfl, y7e⟩
        refine ⟨rfl, ?_⟩
        show aw none _ 67 _ (61, [some (.ref 0), some (.int c), some (.int m)], [(.long y7), (.long y6), (.ref 3)]) w
        refine s_l (pc1 := 64) (ls1 := [some (.ref 0), some (.int c), some (.int m)]) (st1 := [(.long y7), (.long y6), (.ref 3)]) rfl rfl fun y8 e9 => ?_
        have e9t : y8.toInt = -1 := by rw [e9]; rfl
        --
        refine s_l (pc1 := 65) (ls1 := [some (.ref 0), some (.int c), some (.int m)]) (st1 := [(.long y6), (.ref 3)]) rfl rfl fun y10 e11 => ?_
        have e11 : y10 = y7 ^^^ y8 := e11
        --
        refine s_l (pc1 := 66) (ls1 := [some (.ref 0), some (.int c), some (.int m)]) (st1 := [(.ref 3)]) rfl rfl fun y12 e13 => ?_
        have e13 : y12 = y6 &&& y10 := e13
        refine s_p J 69 rfl rfl rfl rfl rfl rfl rfl rfl (Or.inr (Or.inl ⟨rfl, y12, rfl, by show (-9223372036854775808 : Int) ≤ _; first | omega | exact (ab_any64 _).1, by show _ ≤ (9223372036854775807 : Int); first | omega | exact (ab_any64 _).2⟩)) fun w14 J15 w14e => ?_
        have w14f := fv_st J.1 (p := 3) (kf := 6) rfl (by decide) w14e
        refine s_i (pc1 := 70) (ls1 := [some (.ref 0), some (.int c), some (.int m)]) (st1 := []) rfl rfl fun x16 e17 => ?_
        have e17t : x16.toInt = 1 := by rw [e17]; rfl
        refine aw_ret (v := some (.int x16)) rfl rfl ?_
        have h3 : Int64.ofInt (V 3) = y6 := by rw [← r6, fLi_of y6f]; exact Int64.ofInt_toInt _
        have hy : y12.toInt = chV (V 3) c m.toInt := by
          unfold chV
          rw [if_pos (by omega), h3, e13, e11, show y8 = -1 from e9, y7e]
        have R1 := R.putl w14f
        rw [hy] at R1
        exact ⟨J15.1, (w14f.1.sub (by decide)), x16, rfl, _, R1, Or.inr (Or.inr (⟨by omega, ⟨by omega, by omega⟩, by first | omega | (have := hl c; omega), rfl⟩))⟩
      · --
        refine aw_step (f1 := (36, [some (.ref 0), some (.int c), some (.int m)], [(.ref 0), (.ref 3)])) (w1 := w) rfl rfl ?_
        refine s_gr 3 J 39 rfl rfl rfl rfl rfl rfl ?_
        refine s_gl J 42 rfl rfl rfl rfl rfl rfl fun y18 y18a y18b y18f => ?_
        refine aw_step (f1 := (43, [some (.ref 0), some (.int c), some (.int m)], [(.int c), (.long y18), (.ref 3)])) (w1 := w) rfl rfl ?_
        refine s_cs (z := 104) (as := [(.int c)]) (st1 := [(.long y18), (.ref 3)]) 46 rfl rfl rfl rfl rfl rfl (Nat.le_of_ble_eq_true rfl) (Nat.le_of_ble_eq_true rfl) (Nat.le_of_ble_eq_true rfl) (q_bit c) ?_
        rintro _ _ ⟨rfl, y19, rfl, y19e⟩
        refine ⟨rfl, ?_⟩
        show aw none _ 67 _ (46, [some (.ref 0), some (.int c), some (.int m)], [(.long y19), (.long y18), (.ref 3)]) w
        --
        refine s_l (pc1 := 47) (ls1 := [some (.ref 0), some (.int c), some (.int m)]) (st1 := [(.ref 3)]) rfl rfl fun y20 e21 => ?_
        have e21 : y20 = y18 ||| y19 := e21
        refine aw_step (f1 := (66, [some (.ref 0), some (.int c), some (.int m)], [(.long y20), (.ref 3)])) (w1 := w) rfl rfl ?_
        refine s_p J 69 rfl rfl rfl rfl rfl rfl rfl rfl (Or.inr (Or.inl ⟨rfl, y20, rfl, by show (-9223372036854775808 : Int) ≤ _; first | omega | exact (ab_any64 _).1, by show _ ≤ (9223372036854775807 : Int); first | omega | exact (ab_any64 _).2⟩)) fun w22 J23 w22e => ?_
        have w22f := fv_st J.1 (p := 3) (kf := 6) rfl (by decide) w22e
        refine s_i (pc1 := 70) (ls1 := [some (.ref 0), some (.int c), some (.int m)]) (st1 := []) rfl rfl fun x24 e25 => ?_
        have e25t : x24.toInt = 1 := by rw [e25]; rfl
        refine aw_ret (v := some (.int x24)) rfl rfl ?_
        have h3 : Int64.ofInt (V 3) = y18 := by rw [← r6, fLi_of y18f]; exact Int64.ofInt_toInt _
        have hy : y20.toInt = chV (V 3) c m.toInt := by
          unfold chV
          rw [if_neg (by omega), h3, e21, y19e]
        have R1 := R.putl w22f
        rw [hy] at R1
        exact ⟨J23.1, (w22f.1.sub (by decide)), x24, rfl, _, R1, Or.inr (Or.inr (⟨by omega, ⟨by omega, by omega⟩, by first | omega | (have := hl c; omega), rfl⟩))⟩
    · --
      refine s_i (pc1 := 26) (ls1 := [some (.ref 0), some (.int c), some (.int m)]) (st1 := []) rfl rfl fun x26 e27 => ?_
      have e27t : x26.toInt = -3 := by rw [e27]; rfl
      refine aw_ret (v := some (.int x26)) rfl rfl ?_
      exact ⟨J.1, only.rf, x26, rfl, _, R, by first | exact Or.inl ⟨by omega, by omega, rfl⟩ | exact Or.inr (Or.inl ⟨by omega, ⟨by omega, by omega⟩, by first | omega | (have := hl c; omega), rfl⟩)⟩
  · --
    refine s_i (pc1 := 12) (ls1 := [some (.ref 0), some (.int c), some (.int m)]) (st1 := []) rfl rfl fun x28 e29 => ?_
    have e29t : x28.toInt = -1 := by rw [e29]; rfl
    refine aw_ret (v := some (.int x28)) rfl rfl ?_
    exact ⟨J.1, only.rf, x28, rfl, _, R, by first | exact Or.inl ⟨by omega, by omega, rfl⟩ | exact Or.inr (Or.inl ⟨by omega, ⟨by omega, by omega⟩, by first | omega | (have := hl c; omega), rfl⟩)⟩
theorem f_change {d : Nat} {w : am_W} {V : Nat → Int} (R : RMs w V) (c m : Int32) (hm : m.toInt = 0 ∨ m.toInt = 1) (I : ab_inv ab_TT ab_sets w) : aw none (d + 3) 127 (QM w (fun z V1 => cgP V c m.toInt z V1)) (0, am_entry 127 [.ref 65, .int c, .int m], []) w := by
  have J : ab_J ab_TT ab_sets ab_WR2 w w := ⟨I, ab_fr.rf⟩
  have sz := szM_in I
  have hs := R.sz
  have r2 := R.f2
  have r3 := R.f3
  have r4 := R.f4
  have r5 := R.f5
  have r6 := R.f6
  have r7 := R.f7
  have hl : ∀ c : Int32, 0 ≤ c.toInt → c.toInt < szV V → rI w 66 c.toInt.toNat = V (40 + c.toInt.toNat) := fun c a b => R.rc (by omega)
  show aw none (d + 3) 127 _ (0, [some (.ref 65), some (.int c), some (.int m)], []) w
  refine aw_step (f1 := (1, [some (.ref 65), some (.int c), some (.int m)], [(.ref 65)])) (w1 := w) rfl rfl ?_
  refine aw_step (f1 := (2, [some (.ref 65), some (.int c), some (.int m)], [(.int c), (.ref 65)])) (w1 := w) rfl rfl ?_
  refine s_cv (z := 114) (p := 65) (as := [(.int c)]) (st1 := []) J 5 rfl rfl rfl rfl rfl rfl rfl rfl (Nat.le_of_ble_eq_true rfl) (Nat.le_of_ble_eq_true rfl) (q_isCell c J.1) ?_
  rintro _ _ ⟨rfl, x1, rfl, x1t⟩
  refine ⟨rfl, ?_⟩
  show aw none _ 127 _ (5, [some (.ref 65), some (.int c), some (.int m)], [(.int x1)]) w
  have x1s := szM_in J.1
  refine s_if 10 8 rfl rfl rfl (fun (h2 : ¬ x1.toInt = 0) => ?_) (fun (h2 : ¬ (¬ x1.toInt = 0)) => ?_)
  · --
    refine aw_step (f1 := (11, [some (.ref 65), some (.int c), some (.int m)], [(.ref 65)])) (w1 := w) rfl rfl ?_
    refine aw_step (f1 := (12, [some (.ref 65), some (.int c), some (.int m)], [(.int c), (.ref 65)])) (w1 := w) rfl rfl ?_
    refine s_cv (z := 115) (p := 65) (as := [(.int c)]) (st1 := []) J 15 rfl rfl rfl rfl rfl rfl rfl rfl (Nat.le_of_ble_eq_true rfl) (Nat.le_of_ble_eq_true rfl) (q_isLand c J.1) ?_
    rintro _ _ ⟨rfl, x3, rfl, x3t⟩
    refine ⟨rfl, ?_⟩
    show aw none _ 127 _ (15, [some (.ref 65), some (.int c), some (.int m)], [(.int x3)]) w
    have x3s := szM_in J.1
    refine s_if 21 18 rfl rfl rfl (fun (h4 : ¬ x3.toInt = 0) => ?_) (fun (h4 : ¬ (¬ x3.toInt = 0)) => ?_)
    · --
      refine aw_step (f1 := (22, [some (.ref 65), some (.int c), some (.int m)], [(.ref 65)])) (w1 := w) rfl rfl ?_
      refine aw_step (f1 := (23, [some (.ref 65), some (.int c), some (.int m)], [(.int m), (.ref 65)])) (w1 := w) rfl rfl ?_
      refine s_if 37 26 rfl rfl rfl (fun (h5 : m.toInt = 0) => ?_) (fun (h5 : ¬ (m.toInt = 0)) => ?_)
      · --
        refine aw_step (f1 := (38, [some (.ref 65), some (.int c), some (.int m)], [(.ref 65), (.ref 65)])) (w1 := w) rfl rfl ?_
        refine s_gl J 41 rfl rfl rfl rfl rfl rfl fun y6 y6a y6b y6f => ?_
        refine s_l (pc1 := 42) (ls1 := [some (.ref 65), some (.int c), some (.int m)]) (st1 := [(.long y6), (.ref 65)]) rfl rfl fun y7 e8 => ?_
        have e8t : y7.toInt = 1 := by rw [e8]; rfl
        refine aw_step (f1 := (43, [some (.ref 65), some (.int c), some (.int m)], [(.int c), (.long y7), (.long y6), (.ref 65)])) (w1 := w) rfl rfl ?_
        --
        refine s_l (pc1 := 44) (ls1 := [some (.ref 65), some (.int c), some (.int m)]) (st1 := [(.long y6), (.ref 65)]) rfl rfl fun y9 e10 => ?_
        have e10 : y9 = y7 <<< (c.toInt64 &&& 63) := e10
        refine s_l (pc1 := 47) (ls1 := [some (.ref 65), some (.int c), some (.int m)]) (st1 := [(.long y9), (.long y6), (.ref 65)]) rfl rfl fun y11 e12 => ?_
        have e12t : y11.toInt = -1 := by rw [e12]; rfl
        --
        refine s_l (pc1 := 48) (ls1 := [some (.ref 65), some (.int c), some (.int m)]) (st1 := [(.long y6), (.ref 65)]) rfl rfl fun y13 e14 => ?_
        have e14 : y13 = y9 ^^^ y11 := e14
        --
        refine s_l (pc1 := 49) (ls1 := [some (.ref 65), some (.int c), some (.int m)]) (st1 := [(.ref 65)]) rfl rfl fun y15 e16 => ?_
        have e16 : y15 = y6 &&& y13 := e16
        refine s_p J 52 rfl rfl rfl rfl rfl rfl rfl rfl (Or.inr (Or.inl ⟨rfl, y15, rfl, by show (-9223372036854775808 : Int) ≤ _; first | omega | exact (ab_any64 _).1, by show _ ≤ (9223372036854775807 : Int); first | omega | exact (ab_any64 _).2⟩)) fun w17 J18 w17e => ?_
        have w17f := fv_st J.1 (p := 65) (kf := 4) rfl (by decide) w17e
        refine s_i (pc1 := 53) (ls1 := [some (.ref 65), some (.int c), some (.int m)]) (st1 := []) rfl rfl fun x19 e20 => ?_
        have e20t : x19.toInt = 1 := by rw [e20]; rfl
        refine aw_ret (v := some (.int x19)) rfl rfl ?_
        have h3 : Int64.ofInt (V 3) = y6 := by rw [← r3, fLi_of y6f]; exact Int64.ofInt_toInt _
        have hy : y15.toInt = chV (V 3) c m.toInt := by
          unfold chV
          rw [if_pos (by omega), h3, e16, e14, show y11 = -1 from e12, e10, show y7 = 1 from e8]
        have R1 := R.putl w17f
        rw [hy] at R1
        exact ⟨J18.1, (w17f.1.sub (by decide)), by rw [fI_eq (w17f.2.2 16 (by decide))], x19, rfl, _, R1, Or.inr (Or.inr (⟨by omega, ⟨by omega, by omega⟩, by first | omega | (have := hl c; omega), rfl⟩))⟩
      · --
        refine aw_step (f1 := (27, [some (.ref 65), some (.int c), some (.int m)], [(.ref 65), (.ref 65)])) (w1 := w) rfl rfl ?_
        refine s_gl J 30 rfl rfl rfl rfl rfl rfl fun y21 y21a y21b y21f => ?_
        refine s_l (pc1 := 31) (ls1 := [some (.ref 65), some (.int c), some (.int m)]) (st1 := [(.long y21), (.ref 65)]) rfl rfl fun y22 e23 => ?_
        have e23t : y22.toInt = 1 := by rw [e23]; rfl
        refine aw_step (f1 := (32, [some (.ref 65), some (.int c), some (.int m)], [(.int c), (.long y22), (.long y21), (.ref 65)])) (w1 := w) rfl rfl ?_
        --
        refine s_l (pc1 := 33) (ls1 := [some (.ref 65), some (.int c), some (.int m)]) (st1 := [(.long y21), (.ref 65)]) rfl rfl fun y24 e25 => ?_
        have e25 : y24 = y22 <<< (c.toInt64 &&& 63) := e25
        --
        refine s_l (pc1 := 34) (ls1 := [some (.ref 65), some (.int c), some (.int m)]) (st1 := [(.ref 65)]) rfl rfl fun y26 e27 => ?_
        have e27 : y26 = y21 ||| y24 := e27
        refine aw_step (f1 := (49, [some (.ref 65), some (.int c), some (.int m)], [(.long y26), (.ref 65)])) (w1 := w) rfl rfl ?_
        refine s_p J 52 rfl rfl rfl rfl rfl rfl rfl rfl (Or.inr (Or.inl ⟨rfl, y26, rfl, by show (-9223372036854775808 : Int) ≤ _; first | omega | exact (ab_any64 _).1, by show _ ≤ (9223372036854775807 : Int); first | omega | exact (ab_any64 _).2⟩)) fun w28 J29 w28e => ?_
        have w28f := fv_st J.1 (p := 65) (kf := 4) rfl (by decide) w28e
        refine s_i (pc1 := 53) (ls1 := [some (.ref 65), some (.int c), some (.int m)]) (st1 := []) rfl rfl fun x30 e31 => ?_
        have e31t : x30.toInt = 1 := by rw [e31]; rfl
        refine aw_ret (v := some (.int x30)) rfl rfl ?_
        have h3 : Int64.ofInt (V 3) = y21 := by rw [← r3, fLi_of y21f]; exact Int64.ofInt_toInt _
        have hy : y26.toInt = chV (V 3) c m.toInt := by
          unfold chV
          rw [if_neg (by omega), h3, e27, e25, show y22 = 1 from e23]
        have R1 := R.putl w28f
        rw [hy] at R1
        exact ⟨J29.1, (w28f.1.sub (by decide)), by rw [fI_eq (w28f.2.2 16 (by decide))], x30, rfl, _, R1, Or.inr (Or.inr (⟨by omega, ⟨by omega, by omega⟩, by first | omega | (have := hl c; omega), rfl⟩))⟩
    · --
      refine s_i (pc1 := 20) (ls1 := [some (.ref 65), some (.int c), some (.int m)]) (st1 := []) rfl rfl fun x32 e33 => ?_
      have e33t : x32.toInt = -3 := by rw [e33]; rfl
      refine aw_ret (v := some (.int x32)) rfl rfl ?_
      exact ⟨J.1, only.rf, rfl, x32, rfl, _, R, by first | exact Or.inl ⟨by omega, by omega, rfl⟩ | exact Or.inr (Or.inl ⟨by omega, ⟨by omega, by omega⟩, by first | omega | (have := hl c; omega), rfl⟩)⟩
  · --
    refine s_i (pc1 := 9) (ls1 := [some (.ref 65), some (.int c), some (.int m)]) (st1 := []) rfl rfl fun x34 e35 => ?_
    have e35t : x34.toInt = -1 := by rw [e35]; rfl
    refine aw_ret (v := some (.int x34)) rfl rfl ?_
    exact ⟨J.1, only.rf, rfl, x34, rfl, _, R, by first | exact Or.inl ⟨by omega, by omega, rfl⟩ | exact Or.inr (Or.inl ⟨by omega, ⟨by omega, by omega⟩, by first | omega | (have := hl c; omega), rfl⟩)⟩
theorem e_boots {d : Nat} {w : am_W} {V : Nat → Int} (R : RCs w 3 V) (b k v : Int32) (I : ab_inv ab_TT ab_sets w) : aw none (d + 3) 68 (QC w (fun z V1 => btP V b.toInt k.toInt v.toInt z V1)) (0, am_entry 68 [.ref 0, .int b, .int k, .int v], []) w := by
  have J : ab_J ab_TT ab_sets ab_WR2 w w := ⟨I, ab_fr.rf⟩
  have sz := szC_in I
  have hs := R.sz
  have r2 := R.f2
  have r3 := R.f3
  have r4 := R.f4
  have r6 := R.f6
  show aw none (d + 3) 68 _ (0, [some (.ref 0), some (.int b), some (.int k), some (.int v)], []) w
  refine aw_step (f1 := (1, [some (.ref 0), some (.int b), some (.int k), some (.int v)], [(.int b)])) (w1 := w) rfl rfl ?_
  refine s_cs (z := 103) (as := [(.int b)]) (st1 := []) 4 rfl rfl rfl rfl rfl rfl (Nat.le_of_ble_eq_true rfl) (Nat.le_of_ble_eq_true rfl) (Nat.le_of_ble_eq_true rfl) (q_isBoots b) ?_
  rintro _ _ ⟨rfl, x1, rfl, x1t⟩
  refine ⟨rfl, ?_⟩
  show aw none _ 68 _ (4, [some (.ref 0), some (.int b), some (.int k), some (.int v)], [(.int x1)]) w
  refine s_if 9 7 rfl rfl rfl (fun (h2 : ¬ x1.toInt = 0) => ?_) (fun (h2 : ¬ (¬ x1.toInt = 0)) => ?_)
  · --
    refine aw_step (f1 := (10, [some (.ref 0), some (.int b), some (.int k), some (.int v)], [(.int k)])) (w1 := w) rfl rfl ?_
    refine s_if 36 13 rfl rfl rfl (fun (h3 : ¬ k.toInt = 0) => ?_) (fun (h3 : ¬ (¬ k.toInt = 0)) => ?_)
    · --
      refine aw_step (f1 := (37, [some (.ref 0), some (.int b), some (.int k), some (.int v)], [(.int k)])) (w1 := w) rfl rfl ?_
      refine s_i (pc1 := 38) (ls1 := [some (.ref 0), some (.int b), some (.int k), some (.int v)]) (st1 := [(.int k)]) rfl rfl fun x4 e5 => ?_
      have e5t : x4.toInt = 1 := by rw [e5]; rfl
      refine s_ic 64 41 rfl rfl rfl (fun (h6 : ¬ k.toInt = x4.toInt) => ?_) (fun (h6 : ¬ (¬ k.toInt = x4.toInt)) => ?_)
      · --
        refine s_i (pc1 := 66) (ls1 := [some (.ref 0), some (.int b), some (.int k), some (.int v)]) (st1 := []) rfl rfl fun x7 e8 => ?_
        have e8t : x7.toInt = -2 := by rw [e8]; rfl
        refine aw_ret (v := some (.int x7)) rfl rfl ?_
        exact ⟨J.1, only.rf, x7, rfl, _, R, by first | exact Or.inl ⟨by omega, by omega, rfl⟩ | exact Or.inr (Or.inl ⟨by omega, ⟨by omega, by omega⟩, by omega, by omega, rfl⟩)⟩
      · --
        refine aw_step (f1 := (42, [some (.ref 0), some (.int b), some (.int k), some (.int v)], [(.int v)])) (w1 := w) rfl rfl ?_
        refine s_i (pc1 := 43) (ls1 := [some (.ref 0), some (.int b), some (.int k), some (.int v)]) (st1 := [(.int v)]) rfl rfl fun x9 e10 => ?_
        have e10t : x9.toInt = 0 := by rw [e10]; rfl
        refine s_i (pc1 := 45) (ls1 := [some (.ref 0), some (.int b), some (.int k), some (.int v)]) (st1 := [(.int x9), (.int v)]) rfl rfl fun x11 e12 => ?_
        have e12t : x11.toInt = 99 := by rw [e12]; rfl
        refine s_cs (z := 102) (as := [(.int v), (.int x9), (.int x11)]) (st1 := []) 48 rfl rfl rfl rfl rfl rfl (Nat.le_of_ble_eq_true rfl) (Nat.le_of_ble_eq_true rfl) (Nat.le_of_ble_eq_true rfl) (q_within v x9 x11) ?_
        rintro _ _ ⟨rfl, x13, rfl, x13t⟩
        refine ⟨rfl, ?_⟩
        show aw none _ 68 _ (48, [some (.ref 0), some (.int b), some (.int k), some (.int v)], [(.int x13)]) w
        refine s_if 64 51 rfl rfl rfl (fun (h14 : x13.toInt = 0) => ?_) (fun (h14 : ¬ (x13.toInt = 0)) => ?_)
        · --
          refine s_i (pc1 := 66) (ls1 := [some (.ref 0), some (.int b), some (.int k), some (.int v)]) (st1 := []) rfl rfl fun x15 e16 => ?_
          have e16t : x15.toInt = -2 := by rw [e16]; rfl
          refine aw_ret (v := some (.int x15)) rfl rfl ?_
          exact ⟨J.1, only.rf, x15, rfl, _, R, by first | exact Or.inl ⟨by omega, by omega, rfl⟩ | exact Or.inr (Or.inl ⟨by omega, ⟨by omega, by omega⟩, by omega, by omega, rfl⟩)⟩
        · --
          refine aw_step (f1 := (52, [some (.ref 0), some (.int b), some (.int k), some (.int v)], [(.ref 0)])) (w1 := w) rfl rfl ?_
          refine s_gr 3 J 55 rfl rfl rfl rfl rfl rfl ?_
          refine s_gr 8 J 58 rfl rfl rfl rfl rfl rfl ?_
          refine aw_step (f1 := (59, [some (.ref 0), some (.int b), some (.int k), some (.int v)], [(.int b), (.ref 8)])) (w1 := w) rfl rfl ?_
          refine aw_step (f1 := (60, [some (.ref 0), some (.int b), some (.int k), some (.int v)], [(.int v), (.int b), (.ref 8)])) (w1 := w) rfl rfl ?_
          refine s_cs (z := 99) (as := [(.ref 8), (.int b), (.int v)]) (st1 := []) 63 rfl rfl rfl rfl rfl rfl (Nat.le_of_ble_eq_true rfl) (Nat.le_of_ble_eq_true rfl) (Nat.le_of_ble_eq_true rfl) (q_put8 b v ⟨by omega, by omega⟩ ⟨by omega, by omega⟩ J.1) ?_
          rintro _ w18 ⟨x17, rfl, J19c, x17v, w18f⟩
          have J19 := J.trans J19c
          refine ⟨am_len2 J J19c, ?_⟩
          show aw none _ 68 _ (63, [some (.ref 0), some (.int b), some (.int k), some (.int v)], [(.int x17)]) w18
          refine aw_ret (v := some (.int x17)) rfl rfl ?_
          have hv := R.rv (r := 5) (i := b.toInt.toNat) (by decide) (by decide) (by omega) (by show b.toInt.toNat < 4; omega)
          have hv : rI w 8 b.toInt.toNat = V (8 + 4 * b.toInt.toNat + 1) := hv
          exact ⟨J19.1, (w18f.1.sub (by decide)), x17, rfl, _, R.row (r := 5) (i := b.toInt.toNat) (by decide) (by decide) (by omega) (by show b.toInt.toNat < 4; omega) w18f, Or.inr (Or.inr (Or.inr (⟨by omega, ⟨by omega, by omega⟩, ⟨by omega, by omega, by omega⟩, rfl⟩)))⟩
    · --
      refine aw_step (f1 := (14, [some (.ref 0), some (.int b), some (.int k), some (.int v)], [(.int v)])) (w1 := w) rfl rfl ?_
      refine s_i (pc1 := 15) (ls1 := [some (.ref 0), some (.int b), some (.int k), some (.int v)]) (st1 := [(.int v)]) rfl rfl fun x20 e21 => ?_
      have e21t : x20.toInt = 1 := by rw [e21]; rfl
      refine s_i (pc1 := 17) (ls1 := [some (.ref 0), some (.int b), some (.int k), some (.int v)]) (st1 := [(.int x20), (.int v)]) rfl rfl fun x22 e23 => ?_
      have e23t : x22.toInt = 50 := by rw [e23]; rfl
      refine s_cs (z := 102) (as := [(.int v), (.int x20), (.int x22)]) (st1 := []) 20 rfl rfl rfl rfl rfl rfl (Nat.le_of_ble_eq_true rfl) (Nat.le_of_ble_eq_true rfl) (Nat.le_of_ble_eq_true rfl) (q_within v x20 x22) ?_
      rintro _ _ ⟨rfl, x24, rfl, x24t⟩
      refine ⟨rfl, ?_⟩
      show aw none _ 68 _ (20, [some (.ref 0), some (.int b), some (.int k), some (.int v)], [(.int x24)]) w
      refine s_if 36 23 rfl rfl rfl (fun (h25 : x24.toInt = 0) => ?_) (fun (h25 : ¬ (x24.toInt = 0)) => ?_)
      · --
        refine aw_step (f1 := (37, [some (.ref 0), some (.int b), some (.int k), some (.int v)], [(.int k)])) (w1 := w) rfl rfl ?_
        refine s_i (pc1 := 38) (ls1 := [some (.ref 0), some (.int b), some (.int k), some (.int v)]) (st1 := [(.int k)]) rfl rfl fun x26 e27 => ?_
        have e27t : x26.toInt = 1 := by rw [e27]; rfl
        refine s_ic 64 41 rfl rfl rfl (fun (h28 : ¬ k.toInt = x26.toInt) => ?_) (fun (h28 : ¬ (¬ k.toInt = x26.toInt)) => ?_)
        · --
          refine s_i (pc1 := 66) (ls1 := [some (.ref 0), some (.int b), some (.int k), some (.int v)]) (st1 := []) rfl rfl fun x29 e30 => ?_
          have e30t : x29.toInt = -2 := by rw [e30]; rfl
          refine aw_ret (v := some (.int x29)) rfl rfl ?_
          exact ⟨J.1, only.rf, x29, rfl, _, R, by first | exact Or.inl ⟨by omega, by omega, rfl⟩ | exact Or.inr (Or.inl ⟨by omega, ⟨by omega, by omega⟩, by omega, by omega, rfl⟩)⟩
        · --
          refine aw_step (f1 := (42, [some (.ref 0), some (.int b), some (.int k), some (.int v)], [(.int v)])) (w1 := w) rfl rfl ?_
          refine s_i (pc1 := 43) (ls1 := [some (.ref 0), some (.int b), some (.int k), some (.int v)]) (st1 := [(.int v)]) rfl rfl fun x31 e32 => ?_
          have e32t : x31.toInt = 0 := by rw [e32]; rfl
          refine s_i (pc1 := 45) (ls1 := [some (.ref 0), some (.int b), some (.int k), some (.int v)]) (st1 := [(.int x31), (.int v)]) rfl rfl fun x33 e34 => ?_
          have e34t : x33.toInt = 99 := by rw [e34]; rfl
          refine s_cs (z := 102) (as := [(.int v), (.int x31), (.int x33)]) (st1 := []) 48 rfl rfl rfl rfl rfl rfl (Nat.le_of_ble_eq_true rfl) (Nat.le_of_ble_eq_true rfl) (Nat.le_of_ble_eq_true rfl) (q_within v x31 x33) ?_
          rintro _ _ ⟨rfl, x35, rfl, x35t⟩
          refine ⟨rfl, ?_⟩
          show aw none _ 68 _ (48, [some (.ref 0), some (.int b), some (.int k), some (.int v)], [(.int x35)]) w
          refine s_if 64 51 rfl rfl rfl (fun (h36 : x35.toInt = 0) => ?_) (fun (h36 : ¬ (x35.toInt = 0)) => ?_)
          · --
            refine s_i (pc1 := 66) (ls1 := [some (.ref 0), some (.int b), some (.int k), some (.int v)]) (st1 := []) rfl rfl fun x37 e38 => ?_
            have e38t : x37.toInt = -2 := by rw [e38]; rfl
            refine aw_ret (v := some (.int x37)) rfl rfl ?_
            exact ⟨J.1, only.rf, x37, rfl, _, R, by first | exact Or.inl ⟨by omega, by omega, rfl⟩ | exact Or.inr (Or.inl ⟨by omega, ⟨by omega, by omega⟩, by omega, by omega, rfl⟩)⟩
          · --
            refine aw_step (f1 := (52, [some (.ref 0), some (.int b), some (.int k), some (.int v)], [(.ref 0)])) (w1 := w) rfl rfl ?_
            refine s_gr 3 J 55 rfl rfl rfl rfl rfl rfl ?_
            refine s_gr 8 J 58 rfl rfl rfl rfl rfl rfl ?_
            refine aw_step (f1 := (59, [some (.ref 0), some (.int b), some (.int k), some (.int v)], [(.int b), (.ref 8)])) (w1 := w) rfl rfl ?_
            refine aw_step (f1 := (60, [some (.ref 0), some (.int b), some (.int k), some (.int v)], [(.int v), (.int b), (.ref 8)])) (w1 := w) rfl rfl ?_
            refine s_cs (z := 99) (as := [(.ref 8), (.int b), (.int v)]) (st1 := []) 63 rfl rfl rfl rfl rfl rfl (Nat.le_of_ble_eq_true rfl) (Nat.le_of_ble_eq_true rfl) (Nat.le_of_ble_eq_true rfl) (q_put8 b v ⟨by omega, by omega⟩ ⟨by omega, by omega⟩ J.1) ?_
            rintro _ w40 ⟨x39, rfl, J41c, x39v, w40f⟩
            have J41 := J.trans J41c
            refine ⟨am_len2 J J41c, ?_⟩
            show aw none _ 68 _ (63, [some (.ref 0), some (.int b), some (.int k), some (.int v)], [(.int x39)]) w40
            refine aw_ret (v := some (.int x39)) rfl rfl ?_
            have hv := R.rv (r := 5) (i := b.toInt.toNat) (by decide) (by decide) (by omega) (by show b.toInt.toNat < 4; omega)
            have hv : rI w 8 b.toInt.toNat = V (8 + 4 * b.toInt.toNat + 1) := hv
            exact ⟨J41.1, (w40f.1.sub (by decide)), x39, rfl, _, R.row (r := 5) (i := b.toInt.toNat) (by decide) (by decide) (by omega) (by show b.toInt.toNat < 4; omega) w40f, Or.inr (Or.inr (Or.inr (⟨by omega, ⟨by omega, by omega⟩, ⟨by omega, by omega, by omega⟩, rfl⟩)))⟩
      · --
        refine aw_step (f1 := (24, [some (.ref 0), some (.int b), some (.int k), some (.int v)], [(.ref 0)])) (w1 := w) rfl rfl ?_
        refine s_gr 3 J 27 rfl rfl rfl rfl rfl rfl ?_
        refine s_gr 7 J 30 rfl rfl rfl rfl rfl rfl ?_
        refine aw_step (f1 := (31, [some (.ref 0), some (.int b), some (.int k), some (.int v)], [(.int b), (.ref 7)])) (w1 := w) rfl rfl ?_
        refine aw_step (f1 := (32, [some (.ref 0), some (.int b), some (.int k), some (.int v)], [(.int v), (.int b), (.ref 7)])) (w1 := w) rfl rfl ?_
        refine s_cs (z := 99) (as := [(.ref 7), (.int b), (.int v)]) (st1 := []) 35 rfl rfl rfl rfl rfl rfl (Nat.le_of_ble_eq_true rfl) (Nat.le_of_ble_eq_true rfl) (Nat.le_of_ble_eq_true rfl) (q_put7 b v ⟨by omega, by omega⟩ ⟨by omega, by omega⟩ J.1) ?_
        rintro _ w43 ⟨x42, rfl, J44c, x42v, w43f⟩
        have J44 := J.trans J44c
        refine ⟨am_len2 J J44c, ?_⟩
        show aw none _ 68 _ (35, [some (.ref 0), some (.int b), some (.int k), some (.int v)], [(.int x42)]) w43
        refine aw_ret (v := some (.int x42)) rfl rfl ?_
        have hv := R.rv (r := 4) (i := b.toInt.toNat) (by decide) (by decide) (by omega) (by show b.toInt.toNat < 4; omega)
        have hv : rI w 7 b.toInt.toNat = V (8 + 4 * b.toInt.toNat + 0) := hv
        exact ⟨J44.1, (w43f.1.sub (by decide)), x42, rfl, _, R.row (r := 4) (i := b.toInt.toNat) (by decide) (by decide) (by omega) (by show b.toInt.toNat < 4; omega) w43f, Or.inr (Or.inr (Or.inl ⟨by omega, ⟨by omega, by omega⟩, ⟨by omega, by omega, by omega⟩, rfl⟩))⟩
  · --
    refine s_i (pc1 := 8) (ls1 := [some (.ref 0), some (.int b), some (.int k), some (.int v)]) (st1 := []) rfl rfl fun x45 e46 => ?_
    have e46t : x45.toInt = -1 := by rw [e46]; rfl
    refine aw_ret (v := some (.int x45)) rfl rfl ?_
    exact ⟨J.1, only.rf, x45, rfl, _, R, by first | exact Or.inl ⟨by omega, by omega, rfl⟩ | exact Or.inr (Or.inl ⟨by omega, ⟨by omega, by omega⟩, by omega, by omega, rfl⟩)⟩
theorem f_boots {d : Nat} {w : am_W} {V : Nat → Int} (R : RMs w V) (b k v : Int32) (I : ab_inv ab_TT ab_sets w) : aw none (d + 3) 128 (QM w (fun z V1 => btP V b.toInt k.toInt v.toInt z V1)) (0, am_entry 128 [.ref 65, .int b, .int k, .int v], []) w := by
  have J : ab_J ab_TT ab_sets ab_WR2 w w := ⟨I, ab_fr.rf⟩
  have sz := szM_in I
  have hs := R.sz
  have r2 := R.f2
  have r3 := R.f3
  have r4 := R.f4
  have r5 := R.f5
  have r6 := R.f6
  have r7 := R.f7
  have hl : ∀ c : Int32, 0 ≤ c.toInt → c.toInt < szV V → rI w 66 c.toInt.toNat = V (40 + c.toInt.toNat) := fun c a b => R.rc (by omega)
  show aw none (d + 3) 128 _ (0, [some (.ref 65), some (.int b), some (.int k), some (.int v), none], []) w
  refine aw_step (f1 := (1, [some (.ref 65), some (.int b), some (.int k), some (.int v), none], [(.int b)])) (w1 := w) rfl rfl ?_
  refine s_cs (z := 116) (as := [(.int b)]) (st1 := []) 4 rfl rfl rfl rfl rfl rfl (Nat.le_of_ble_eq_true rfl) (Nat.le_of_ble_eq_true rfl) (Nat.le_of_ble_eq_true rfl) (q_areBoots b) ?_
  rintro _ _ ⟨rfl, x1, rfl, x1t⟩
  refine ⟨rfl, ?_⟩
  show aw none _ 128 _ (4, [some (.ref 65), some (.int b), some (.int k), some (.int v), none], [(.int x1)]) w
  refine s_if 9 7 rfl rfl rfl (fun (h2 : ¬ x1.toInt = 0) => ?_) (fun (h2 : ¬ (¬ x1.toInt = 0)) => ?_)
  · --
    refine aw_step (f1 := (10, [some (.ref 65), some (.int b), some (.int k), some (.int v), none], [(.int k)])) (w1 := w) rfl rfl ?_
    refine s_l (pc1 := 11) (ls1 := [some (.ref 65), some (.int b), some (.int k), some (.int v), none]) (st1 := []) rfl rfl fun y3 e4 => ?_
    have e4t : y3.toInt = k.toInt := by rw [e4]; exact Int32.toInt_toInt64 k
    refine s_l (pc1 := 12) (ls1 := [some (.ref 65), some (.int b), some (.int k), some (.int v), none]) (st1 := [(.long y3)]) rfl rfl fun y5 e6 => ?_
    have e6t : y5.toInt = 0 := by rw [e6]; rfl
    refine s_l (pc1 := 13) (ls1 := [some (.ref 65), some (.int b), some (.int k), some (.int v), none]) (st1 := [(.long y5), (.long y3)]) rfl rfl fun y7 e8 => ?_
    have e8t : y7.toInt = 1 := by rw [e8]; rfl
    refine s_cs (z := 108) (as := [(.long y3), (.long y5), (.long y7)]) (st1 := []) 16 rfl rfl rfl rfl rfl rfl (Nat.le_of_ble_eq_true rfl) (Nat.le_of_ble_eq_true rfl) (Nat.le_of_ble_eq_true rfl) (q_in2 y3 y5 y7) ?_
    rintro _ _ ⟨rfl, x9, rfl, x9t⟩
    refine ⟨rfl, ?_⟩
    show aw none _ 128 _ (16, [some (.ref 65), some (.int b), some (.int k), some (.int v), none], [(.int x9)]) w
    refine s_if 49 19 rfl rfl rfl (fun (h10 : x9.toInt = 0) => ?_) (fun (h10 : ¬ (x9.toInt = 0)) => ?_)
    · --
      refine s_i (pc1 := 51) (ls1 := [some (.ref 65), some (.int b), some (.int k), some (.int v), none]) (st1 := []) rfl rfl fun x11 e12 => ?_
      have e12t : x11.toInt = -2 := by rw [e12]; rfl
      refine aw_ret (v := some (.int x11)) rfl rfl ?_
      exact ⟨J.1, only.rf, rfl, x11, rfl, _, R, by first | exact Or.inl ⟨by omega, by omega, rfl⟩ | exact Or.inr (Or.inl ⟨by omega, ⟨by omega, by omega⟩, by omega, by omega, rfl⟩)⟩
    · --
      refine aw_step (f1 := (20, [some (.ref 65), some (.int b), some (.int k), some (.int v), none], [(.int v)])) (w1 := w) rfl rfl ?_
      refine s_l (pc1 := 21) (ls1 := [some (.ref 65), some (.int b), some (.int k), some (.int v), none]) (st1 := []) rfl rfl fun y13 e14 => ?_
      have e14t : y13.toInt = v.toInt := by rw [e14]; exact Int32.toInt_toInt64 v
      refine aw_step (f1 := (22, [some (.ref 65), some (.int b), some (.int k), some (.int v), none], [(.int k), (.long y13)])) (w1 := w) rfl rfl ?_
      refine s_if 29 25 rfl rfl rfl (fun (h15 : ¬ k.toInt = 0) => ?_) (fun (h15 : ¬ (¬ k.toInt = 0)) => ?_)
      · --
        refine s_l (pc1 := 30) (ls1 := [some (.ref 65), some (.int b), some (.int k), some (.int v), none]) (st1 := [(.long y13)]) rfl rfl fun y16 e17 => ?_
        have e17t : y16.toInt = 0 := by rw [e17]; rfl
        refine aw_step (f1 := (31, [some (.ref 65), some (.int b), some (.int k), some (.int v), none], [(.int k), (.long y16), (.long y13)])) (w1 := w) rfl rfl ?_
        refine s_if 40 34 rfl rfl rfl (fun (h18 : ¬ k.toInt = 0) => ?_) (fun (h18 : ¬ (¬ k.toInt = 0)) => ?_)
        · --
          refine s_l (pc1 := 43) (ls1 := [some (.ref 65), some (.int b), some (.int k), some (.int v), none]) (st1 := [(.long y16), (.long y13)]) rfl rfl fun y19 e20 => ?_
          have e20t : y19.toInt = 99 := by rw [e20]; rfl
          refine s_cs (z := 108) (as := [(.long y13), (.long y16), (.long y19)]) (st1 := []) 46 rfl rfl rfl rfl rfl rfl (Nat.le_of_ble_eq_true rfl) (Nat.le_of_ble_eq_true rfl) (Nat.le_of_ble_eq_true rfl) (q_in2 y13 y16 y19) ?_
          rintro _ _ ⟨rfl, x21, rfl, x21t⟩
          refine ⟨rfl, ?_⟩
          show aw none _ 128 _ (46, [some (.ref 65), some (.int b), some (.int k), some (.int v), none], [(.int x21)]) w
          refine s_if 52 49 rfl rfl rfl (fun (h22 : ¬ x21.toInt = 0) => ?_) (fun (h22 : ¬ (¬ x21.toInt = 0)) => ?_)
          · --
            refine aw_step (f1 := (53, [some (.ref 65), some (.int b), some (.int k), some (.int v), none], [(.int k)])) (w1 := w) rfl rfl ?_
            refine s_if 65 56 rfl rfl rfl (fun (h23 : ¬ k.toInt = 0) => ?_) (fun (h23 : ¬ (¬ k.toInt = 0)) => ?_)
            · --
              refine aw_step (f1 := (66, [some (.ref 65), some (.int b), some (.int k), some (.int v), none], [(.ref 65)])) (w1 := w) rfl rfl ?_
              refine s_gr 68 J 69 rfl rfl rfl rfl rfl rfl ?_
              refine aw_step (f1 := (70, [some (.ref 65), some (.int b), some (.int k), some (.int v), none], [(.int b), (.ref 68)])) (w1 := w) rfl rfl ?_
              refine s_ia J 71 rfl rfl rfl rfl (by omega) (by omega) fun x24 x24a x24b x24f => ?_
              have x24v : x24.toInt = rI w 68 b.toInt.toNat := by rw [← rI_of x24f]
              refine aw_step (f1 := (73, [some (.ref 65), some (.int b), some (.int k), some (.int v), some (.int x24)], [])) (w1 := w) rfl rfl ?_
              refine aw_step (f1 := (74, [some (.ref 65), some (.int b), some (.int k), some (.int v), some (.int x24)], [(.ref 65)])) (w1 := w) rfl rfl ?_
              refine s_gr 67 J 77 rfl rfl rfl rfl rfl rfl ?_
              refine aw_step (f1 := (78, [some (.ref 65), some (.int b), some (.int k), some (.int v), some (.int x24)], [(.int b), (.ref 67)])) (w1 := w) rfl rfl ?_
              refine aw_step (f1 := (79, [some (.ref 65), some (.int b), some (.int k), some (.int v), some (.int x24)], [(.int k), (.int b), (.ref 67)])) (w1 := w) rfl rfl ?_
              refine s_if 86 82 rfl rfl rfl (fun (h25 : ¬ k.toInt = 0) => ?_) (fun (h25 : ¬ (¬ k.toInt = 0)) => ?_)
              · --
                refine aw_step (f1 := (87, [some (.ref 65), some (.int b), some (.int k), some (.int v), some (.int x24)], [(.ref 65), (.int b), (.ref 67)])) (w1 := w) rfl rfl ?_
                refine s_gr 67 J 90 rfl rfl rfl rfl rfl rfl ?_
                refine aw_step (f1 := (91, [some (.ref 65), some (.int b), some (.int k), some (.int v), some (.int x24)], [(.int b), (.ref 67), (.int b), (.ref 67)])) (w1 := w) rfl rfl ?_
                refine s_ia J 92 rfl rfl rfl rfl (by omega) (by omega) fun x26 x26a x26b x26f => ?_
                have x26v : x26.toInt = rI w 67 b.toInt.toNat := by rw [← rI_of x26f]
                refine s_is J 93 rfl rfl rfl rfl (by omega) (by omega) (by omega) (by omega) fun w27 J28 w27e => ?_
                have w27f := rI_st J.1 (p := 67) (j := b.toInt.toNat) rfl (by omega) w27e
                refine aw_step (f1 := (94, [some (.ref 65), some (.int b), some (.int k), some (.int v), some (.int x24)], [(.ref 65)])) (w1 := w27) rfl rfl ?_
                refine s_gr 68 J28 97 rfl rfl rfl rfl rfl rfl ?_
                refine aw_step (f1 := (98, [some (.ref 65), some (.int b), some (.int k), some (.int v), some (.int x24)], [(.int b), (.ref 68)])) (w1 := w27) rfl rfl ?_
                refine aw_step (f1 := (99, [some (.ref 65), some (.int b), some (.int k), some (.int v), some (.int x24)], [(.int k), (.int b), (.ref 68)])) (w1 := w27) rfl rfl ?_
                refine s_i (pc1 := 100) (ls1 := [some (.ref 65), some (.int b), some (.int k), some (.int v), some (.int x24)]) (st1 := [(.int k), (.int b), (.ref 68)]) rfl rfl fun x29 e30 => ?_
                have e30t : x29.toInt = 1 := by rw [e30]; rfl
                refine s_ic 107 103 rfl rfl rfl (fun (h31 : ¬ k.toInt = x29.toInt) => ?_) (fun (h31 : ¬ (¬ k.toInt = x29.toInt)) => ?_)
                · --
                  refine aw_step (f1 := (108, [some (.ref 65), some (.int b), some (.int k), some (.int v), some (.int x24)], [(.ref 65), (.int b), (.ref 68)])) (w1 := w27) rfl rfl ?_
                  refine s_gr 68 J28 111 rfl rfl rfl rfl rfl rfl ?_
                  refine aw_step (f1 := (112, [some (.ref 65), some (.int b), some (.int k), some (.int v), some (.int x24)], [(.int b), (.ref 68), (.int b), (.ref 68)])) (w1 := w27) rfl rfl ?_
                  refine s_ia J28 113 rfl rfl rfl rfl (by omega) (by omega) fun x32 x32a x32b x32f => ?_
                  have x32v : x32.toInt = rI w 68 b.toInt.toNat := by rw [← rI_of x32f, w27f.1.rIe (by decide)]
                  refine s_is J28 114 rfl rfl rfl rfl (by omega) (by omega) (by omega) (by omega) fun w33 J34 w33e => ?_
                  have w33f := rI_st J28.1 (p := 68) (j := b.toInt.toNat) rfl (by omega) w33e
                  refine aw_step (f1 := (116, [some (.ref 65), some (.int b), some (.int k), some (.int v), some (.int x24)], [(.int x24)])) (w1 := w33) rfl rfl ?_
                  refine aw_ret (v := some (.int x24)) rfl rfl ?_
                  exfalso; omega
                · --
                  refine aw_step (f1 := (104, [some (.ref 65), some (.int b), some (.int k), some (.int v), some (.int x24)], [(.int v), (.int b), (.ref 68)])) (w1 := w27) rfl rfl ?_
                  refine aw_step (f1 := (113, [some (.ref 65), some (.int b), some (.int k), some (.int v), some (.int x24)], [(.int v), (.int b), (.ref 68)])) (w1 := w27) rfl rfl ?_
                  refine s_is J28 114 rfl rfl rfl rfl (by omega) (by omega) (by omega) (by omega) fun w35 J36 w35e => ?_
                  have w35f := rI_st J28.1 (p := 68) (j := b.toInt.toNat) rfl (by omega) w35e
                  refine aw_step (f1 := (116, [some (.ref 65), some (.int b), some (.int k), some (.int v), some (.int x24)], [(.int x24)])) (w1 := w35) rfl rfl ?_
                  refine aw_ret (v := some (.int x24)) rfl rfl ?_
                  have v0 : rI w 67 b.toInt.toNat = V (8 + 4 * b.toInt.toNat + 0) := R.ra (i := b.toInt.toNat) (c := 0) (by omega) (by decide)
                  have v1 : rI w 68 b.toInt.toNat = V (8 + 4 * b.toInt.toNat + 1) := R.ra (i := b.toInt.toNat) (c := 1) (by omega) (by decide)
                  have R1 := R.rowa (c := 0) (i := b.toInt.toNat) (by decide) (by omega) w27f
                  have R2 := R1.rowa (c := 1) (i := b.toInt.toNat) (by decide) (by omega) w35f
                  rw [upv_id (V := V) (by omega)] at R2
                  exact ⟨J36.1, ((w27f.1.sub (by decide)).trans (w35f.1.sub (by decide))), by rw [w35f.1.fIe (by decide), w27f.1.fIe (by decide)], x24, rfl, _, R2, Or.inr (Or.inr (Or.inr (⟨by omega, ⟨by omega, by omega⟩, ⟨by omega, by omega, by omega⟩, rfl⟩)))⟩
              · --
                refine aw_step (f1 := (83, [some (.ref 65), some (.int b), some (.int k), some (.int v), some (.int x24)], [(.int v), (.int b), (.ref 67)])) (w1 := w) rfl rfl ?_
                refine aw_step (f1 := (92, [some (.ref 65), some (.int b), some (.int k), some (.int v), some (.int x24)], [(.int v), (.int b), (.ref 67)])) (w1 := w) rfl rfl ?_
                refine s_is J 93 rfl rfl rfl rfl (by omega) (by omega) (by omega) (by omega) fun w37 J38 w37e => ?_
                have w37f := rI_st J.1 (p := 67) (j := b.toInt.toNat) rfl (by omega) w37e
                refine aw_step (f1 := (94, [some (.ref 65), some (.int b), some (.int k), some (.int v), some (.int x24)], [(.ref 65)])) (w1 := w37) rfl rfl ?_
                refine s_gr 68 J38 97 rfl rfl rfl rfl rfl rfl ?_
                refine aw_step (f1 := (98, [some (.ref 65), some (.int b), some (.int k), some (.int v), some (.int x24)], [(.int b), (.ref 68)])) (w1 := w37) rfl rfl ?_
                refine aw_step (f1 := (99, [some (.ref 65), some (.int b), some (.int k), some (.int v), some (.int x24)], [(.int k), (.int b), (.ref 68)])) (w1 := w37) rfl rfl ?_
                refine s_i (pc1 := 100) (ls1 := [some (.ref 65), some (.int b), some (.int k), some (.int v), some (.int x24)]) (st1 := [(.int k), (.int b), (.ref 68)]) rfl rfl fun x39 e40 => ?_
                have e40t : x39.toInt = 1 := by rw [e40]; rfl
                refine s_ic 107 103 rfl rfl rfl (fun (h41 : ¬ k.toInt = x39.toInt) => ?_) (fun (h41 : ¬ (¬ k.toInt = x39.toInt)) => ?_)
                · --
                  refine aw_step (f1 := (108, [some (.ref 65), some (.int b), some (.int k), some (.int v), some (.int x24)], [(.ref 65), (.int b), (.ref 68)])) (w1 := w37) rfl rfl ?_
                  refine s_gr 68 J38 111 rfl rfl rfl rfl rfl rfl ?_
                  refine aw_step (f1 := (112, [some (.ref 65), some (.int b), some (.int k), some (.int v), some (.int x24)], [(.int b), (.ref 68), (.int b), (.ref 68)])) (w1 := w37) rfl rfl ?_
                  refine s_ia J38 113 rfl rfl rfl rfl (by omega) (by omega) fun x42 x42a x42b x42f => ?_
                  have x42v : x42.toInt = rI w 68 b.toInt.toNat := by rw [← rI_of x42f, w37f.1.rIe (by decide)]
                  refine s_is J38 114 rfl rfl rfl rfl (by omega) (by omega) (by omega) (by omega) fun w43 J44 w43e => ?_
                  have w43f := rI_st J38.1 (p := 68) (j := b.toInt.toNat) rfl (by omega) w43e
                  refine aw_step (f1 := (116, [some (.ref 65), some (.int b), some (.int k), some (.int v), some (.int x24)], [(.int x24)])) (w1 := w43) rfl rfl ?_
                  refine aw_ret (v := some (.int x24)) rfl rfl ?_
                  have v0 : rI w 67 b.toInt.toNat = V (8 + 4 * b.toInt.toNat + 0) := R.ra (i := b.toInt.toNat) (c := 0) (by omega) (by decide)
                  have v1 : rI w 68 b.toInt.toNat = V (8 + 4 * b.toInt.toNat + 1) := R.ra (i := b.toInt.toNat) (c := 1) (by omega) (by decide)
                  have R1 := R.rowa (c := 0) (i := b.toInt.toNat) (by decide) (by omega) w37f
                  have R2 := R1.rowa (c := 1) (i := b.toInt.toNat) (by decide) (by omega) w43f
                  rw [upv_id (k := 8 + 4 * b.toInt.toNat + 1) (by rw [upv_n (by omega)]; omega)] at R2
                  exact ⟨J44.1, ((w37f.1.sub (by decide)).trans (w43f.1.sub (by decide))), by rw [w43f.1.fIe (by decide), w37f.1.fIe (by decide)], x24, rfl, _, R2, Or.inr (Or.inr (Or.inl ⟨by omega, ⟨by omega, by omega⟩, ⟨by omega, by omega, by omega⟩, rfl⟩))⟩
                · --
                  refine aw_step (f1 := (104, [some (.ref 65), some (.int b), some (.int k), some (.int v), some (.int x24)], [(.int v), (.int b), (.ref 68)])) (w1 := w37) rfl rfl ?_
                  refine aw_step (f1 := (113, [some (.ref 65), some (.int b), some (.int k), some (.int v), some (.int x24)], [(.int v), (.int b), (.ref 68)])) (w1 := w37) rfl rfl ?_
                  refine s_is J38 114 rfl rfl rfl rfl (by omega) (by omega) (by omega) (by omega) fun w45 J46 w45e => ?_
                  have w45f := rI_st J38.1 (p := 68) (j := b.toInt.toNat) rfl (by omega) w45e
                  refine aw_step (f1 := (116, [some (.ref 65), some (.int b), some (.int k), some (.int v), some (.int x24)], [(.int x24)])) (w1 := w45) rfl rfl ?_
                  refine aw_ret (v := some (.int x24)) rfl rfl ?_
                  exfalso; omega
            · --
              refine aw_step (f1 := (57, [some (.ref 65), some (.int b), some (.int k), some (.int v), none], [(.ref 65)])) (w1 := w) rfl rfl ?_
              refine s_gr 67 J 60 rfl rfl rfl rfl rfl rfl ?_
              refine aw_step (f1 := (61, [some (.ref 65), some (.int b), some (.int k), some (.int v), none], [(.int b), (.ref 67)])) (w1 := w) rfl rfl ?_
              refine s_ia J 62 rfl rfl rfl rfl (by omega) (by omega) fun x47 x47a x47b x47f => ?_
              have x47v : x47.toInt = rI w 67 b.toInt.toNat := by rw [← rI_of x47f]
              refine aw_step (f1 := (71, [some (.ref 65), some (.int b), some (.int k), some (.int v), none], [(.int x47)])) (w1 := w) rfl rfl ?_
              refine aw_step (f1 := (73, [some (.ref 65), some (.int b), some (.int k), some (.int v), some (.int x47)], [])) (w1 := w) rfl rfl ?_
              refine aw_step (f1 := (74, [some (.ref 65), some (.int b), some (.int k), some (.int v), some (.int x47)], [(.ref 65)])) (w1 := w) rfl rfl ?_
              refine s_gr 67 J 77 rfl rfl rfl rfl rfl rfl ?_
              refine aw_step (f1 := (78, [some (.ref 65), some (.int b), some (.int k), some (.int v), some (.int x47)], [(.int b), (.ref 67)])) (w1 := w) rfl rfl ?_
              refine aw_step (f1 := (79, [some (.ref 65), some (.int b), some (.int k), some (.int v), some (.int x47)], [(.int k), (.int b), (.ref 67)])) (w1 := w) rfl rfl ?_
              refine s_if 86 82 rfl rfl rfl (fun (h48 : ¬ k.toInt = 0) => ?_) (fun (h48 : ¬ (¬ k.toInt = 0)) => ?_)
              · --
                refine aw_step (f1 := (87, [some (.ref 65), some (.int b), some (.int k), some (.int v), some (.int x47)], [(.ref 65), (.int b), (.ref 67)])) (w1 := w) rfl rfl ?_
                refine s_gr 67 J 90 rfl rfl rfl rfl rfl rfl ?_
                refine aw_step (f1 := (91, [some (.ref 65), some (.int b), some (.int k), some (.int v), some (.int x47)], [(.int b), (.ref 67), (.int b), (.ref 67)])) (w1 := w) rfl rfl ?_
                refine s_ia J 92 rfl rfl rfl rfl (by omega) (by omega) fun x49 x49a x49b x49f => ?_
                have x49v : x49.toInt = rI w 67 b.toInt.toNat := by rw [← rI_of x49f]
                refine s_is J 93 rfl rfl rfl rfl (by omega) (by omega) (by omega) (by omega) fun w50 J51 w50e => ?_
                have w50f := rI_st J.1 (p := 67) (j := b.toInt.toNat) rfl (by omega) w50e
                refine aw_step (f1 := (94, [some (.ref 65), some (.int b), some (.int k), some (.int v), some (.int x47)], [(.ref 65)])) (w1 := w50) rfl rfl ?_
                refine s_gr 68 J51 97 rfl rfl rfl rfl rfl rfl ?_
                refine aw_step (f1 := (98, [some (.ref 65), some (.int b), some (.int k), some (.int v), some (.int x47)], [(.int b), (.ref 68)])) (w1 := w50) rfl rfl ?_
                refine aw_step (f1 := (99, [some (.ref 65), some (.int b), some (.int k), some (.int v), some (.int x47)], [(.int k), (.int b), (.ref 68)])) (w1 := w50) rfl rfl ?_
                refine s_i (pc1 := 100) (ls1 := [some (.ref 65), some (.int b), some (.int k), some (.int v), some (.int x47)]) (st1 := [(.int k), (.int b), (.ref 68)]) rfl rfl fun x52 e53 => ?_
                have e53t : x52.toInt = 1 := by rw [e53]; rfl
                refine s_ic 107 103 rfl rfl rfl (fun (h54 : ¬ k.toInt = x52.toInt) => ?_) (fun (h54 : ¬ (¬ k.toInt = x52.toInt)) => ?_)
                · --
                  refine aw_step (f1 := (108, [some (.ref 65), some (.int b), some (.int k), some (.int v), some (.int x47)], [(.ref 65), (.int b), (.ref 68)])) (w1 := w50) rfl rfl ?_
                  refine s_gr 68 J51 111 rfl rfl rfl rfl rfl rfl ?_
                  refine aw_step (f1 := (112, [some (.ref 65), some (.int b), some (.int k), some (.int v), some (.int x47)], [(.int b), (.ref 68), (.int b), (.ref 68)])) (w1 := w50) rfl rfl ?_
                  refine s_ia J51 113 rfl rfl rfl rfl (by omega) (by omega) fun x55 x55a x55b x55f => ?_
                  have x55v : x55.toInt = rI w 68 b.toInt.toNat := by rw [← rI_of x55f, w50f.1.rIe (by decide)]
                  refine s_is J51 114 rfl rfl rfl rfl (by omega) (by omega) (by omega) (by omega) fun w56 J57 w56e => ?_
                  have w56f := rI_st J51.1 (p := 68) (j := b.toInt.toNat) rfl (by omega) w56e
                  refine aw_step (f1 := (116, [some (.ref 65), some (.int b), some (.int k), some (.int v), some (.int x47)], [(.int x47)])) (w1 := w56) rfl rfl ?_
                  refine aw_ret (v := some (.int x47)) rfl rfl ?_
                  exfalso; omega
                · --
                  refine aw_step (f1 := (104, [some (.ref 65), some (.int b), some (.int k), some (.int v), some (.int x47)], [(.int v), (.int b), (.ref 68)])) (w1 := w50) rfl rfl ?_
                  refine aw_step (f1 := (113, [some (.ref 65), some (.int b), some (.int k), some (.int v), some (.int x47)], [(.int v), (.int b), (.ref 68)])) (w1 := w50) rfl rfl ?_
                  refine s_is J51 114 rfl rfl rfl rfl (by omega) (by omega) (by omega) (by omega) fun w58 J59 w58e => ?_
                  have w58f := rI_st J51.1 (p := 68) (j := b.toInt.toNat) rfl (by omega) w58e
                  refine aw_step (f1 := (116, [some (.ref 65), some (.int b), some (.int k), some (.int v), some (.int x47)], [(.int x47)])) (w1 := w58) rfl rfl ?_
                  refine aw_ret (v := some (.int x47)) rfl rfl ?_
                  have v0 : rI w 67 b.toInt.toNat = V (8 + 4 * b.toInt.toNat + 0) := R.ra (i := b.toInt.toNat) (c := 0) (by omega) (by decide)
                  have v1 : rI w 68 b.toInt.toNat = V (8 + 4 * b.toInt.toNat + 1) := R.ra (i := b.toInt.toNat) (c := 1) (by omega) (by decide)
                  have R1 := R.rowa (c := 0) (i := b.toInt.toNat) (by decide) (by omega) w50f
                  have R2 := R1.rowa (c := 1) (i := b.toInt.toNat) (by decide) (by omega) w58f
                  rw [upv_id (V := V) (by omega)] at R2
                  exact ⟨J59.1, ((w50f.1.sub (by decide)).trans (w58f.1.sub (by decide))), by rw [w58f.1.fIe (by decide), w50f.1.fIe (by decide)], x47, rfl, _, R2, Or.inr (Or.inr (Or.inr (⟨by omega, ⟨by omega, by omega⟩, ⟨by omega, by omega, by omega⟩, rfl⟩)))⟩
              · --
                refine aw_step (f1 := (83, [some (.ref 65), some (.int b), some (.int k), some (.int v), some (.int x47)], [(.int v), (.int b), (.ref 67)])) (w1 := w) rfl rfl ?_
                refine aw_step (f1 := (92, [some (.ref 65), some (.int b), some (.int k), some (.int v), some (.int x47)], [(.int v), (.int b), (.ref 67)])) (w1 := w) rfl rfl ?_
                refine s_is J 93 rfl rfl rfl rfl (by omega) (by omega) (by omega) (by omega) fun w60 J61 w60e => ?_
                have w60f := rI_st J.1 (p := 67) (j := b.toInt.toNat) rfl (by omega) w60e
                refine aw_step (f1 := (94, [some (.ref 65), some (.int b), some (.int k), some (.int v), some (.int x47)], [(.ref 65)])) (w1 := w60) rfl rfl ?_
                refine s_gr 68 J61 97 rfl rfl rfl rfl rfl rfl ?_
                refine aw_step (f1 := (98, [some (.ref 65), some (.int b), some (.int k), some (.int v), some (.int x47)], [(.int b), (.ref 68)])) (w1 := w60) rfl rfl ?_
                refine aw_step (f1 := (99, [some (.ref 65), some (.int b), some (.int k), some (.int v), some (.int x47)], [(.int k), (.int b), (.ref 68)])) (w1 := w60) rfl rfl ?_
                refine s_i (pc1 := 100) (ls1 := [some (.ref 65), some (.int b), some (.int k), some (.int v), some (.int x47)]) (st1 := [(.int k), (.int b), (.ref 68)]) rfl rfl fun x62 e63 => ?_
                have e63t : x62.toInt = 1 := by rw [e63]; rfl
                refine s_ic 107 103 rfl rfl rfl (fun (h64 : ¬ k.toInt = x62.toInt) => ?_) (fun (h64 : ¬ (¬ k.toInt = x62.toInt)) => ?_)
                · --
                  refine aw_step (f1 := (108, [some (.ref 65), some (.int b), some (.int k), some (.int v), some (.int x47)], [(.ref 65), (.int b), (.ref 68)])) (w1 := w60) rfl rfl ?_
                  refine s_gr 68 J61 111 rfl rfl rfl rfl rfl rfl ?_
                  refine aw_step (f1 := (112, [some (.ref 65), some (.int b), some (.int k), some (.int v), some (.int x47)], [(.int b), (.ref 68), (.int b), (.ref 68)])) (w1 := w60) rfl rfl ?_
                  refine s_ia J61 113 rfl rfl rfl rfl (by omega) (by omega) fun x65 x65a x65b x65f => ?_
                  have x65v : x65.toInt = rI w 68 b.toInt.toNat := by rw [← rI_of x65f, w60f.1.rIe (by decide)]
                  refine s_is J61 114 rfl rfl rfl rfl (by omega) (by omega) (by omega) (by omega) fun w66 J67 w66e => ?_
                  have w66f := rI_st J61.1 (p := 68) (j := b.toInt.toNat) rfl (by omega) w66e
                  refine aw_step (f1 := (116, [some (.ref 65), some (.int b), some (.int k), some (.int v), some (.int x47)], [(.int x47)])) (w1 := w66) rfl rfl ?_
                  refine aw_ret (v := some (.int x47)) rfl rfl ?_
                  have v0 : rI w 67 b.toInt.toNat = V (8 + 4 * b.toInt.toNat + 0) := R.ra (i := b.toInt.toNat) (c := 0) (by omega) (by decide)
                  have v1 : rI w 68 b.toInt.toNat = V (8 + 4 * b.toInt.toNat + 1) := R.ra (i := b.toInt.toNat) (c := 1) (by omega) (by decide)
                  have R1 := R.rowa (c := 0) (i := b.toInt.toNat) (by decide) (by omega) w60f
                  have R2 := R1.rowa (c := 1) (i := b.toInt.toNat) (by decide) (by omega) w66f
                  rw [upv_id (k := 8 + 4 * b.toInt.toNat + 1) (by rw [upv_n (by omega)]; omega)] at R2
                  exact ⟨J67.1, ((w60f.1.sub (by decide)).trans (w66f.1.sub (by decide))), by rw [w66f.1.fIe (by decide), w60f.1.fIe (by decide)], x47, rfl, _, R2, Or.inr (Or.inr (Or.inl ⟨by omega, ⟨by omega, by omega⟩, ⟨by omega, by omega, by omega⟩, rfl⟩))⟩
                · --
                  refine aw_step (f1 := (104, [some (.ref 65), some (.int b), some (.int k), some (.int v), some (.int x47)], [(.int v), (.int b), (.ref 68)])) (w1 := w60) rfl rfl ?_
                  refine aw_step (f1 := (113, [some (.ref 65), some (.int b), some (.int k), some (.int v), some (.int x47)], [(.int v), (.int b), (.ref 68)])) (w1 := w60) rfl rfl ?_
                  refine s_is J61 114 rfl rfl rfl rfl (by omega) (by omega) (by omega) (by omega) fun w68 J69 w68e => ?_
                  have w68f := rI_st J61.1 (p := 68) (j := b.toInt.toNat) rfl (by omega) w68e
                  refine aw_step (f1 := (116, [some (.ref 65), some (.int b), some (.int k), some (.int v), some (.int x47)], [(.int x47)])) (w1 := w68) rfl rfl ?_
                  refine aw_ret (v := some (.int x47)) rfl rfl ?_
                  exfalso; omega
          · --
            refine s_i (pc1 := 51) (ls1 := [some (.ref 65), some (.int b), some (.int k), some (.int v), none]) (st1 := []) rfl rfl fun x70 e71 => ?_
            have e71t : x70.toInt = -2 := by rw [e71]; rfl
            refine aw_ret (v := some (.int x70)) rfl rfl ?_
            exact ⟨J.1, only.rf, rfl, x70, rfl, _, R, by first | exact Or.inl ⟨by omega, by omega, rfl⟩ | exact Or.inr (Or.inl ⟨by omega, ⟨by omega, by omega⟩, by omega, by omega, rfl⟩)⟩
        · --
          refine s_l (pc1 := 37) (ls1 := [some (.ref 65), some (.int b), some (.int k), some (.int v), none]) (st1 := [(.long y16), (.long y13)]) rfl rfl fun y72 e73 => ?_
          have e73t : y72.toInt = 50 := by rw [e73]; rfl
          refine aw_step (f1 := (43, [some (.ref 65), some (.int b), some (.int k), some (.int v), none], [(.long y72), (.long y16), (.long y13)])) (w1 := w) rfl rfl ?_
          refine s_cs (z := 108) (as := [(.long y13), (.long y16), (.long y72)]) (st1 := []) 46 rfl rfl rfl rfl rfl rfl (Nat.le_of_ble_eq_true rfl) (Nat.le_of_ble_eq_true rfl) (Nat.le_of_ble_eq_true rfl) (q_in2 y13 y16 y72) ?_
          rintro _ _ ⟨rfl, x74, rfl, x74t⟩
          refine ⟨rfl, ?_⟩
          show aw none _ 128 _ (46, [some (.ref 65), some (.int b), some (.int k), some (.int v), none], [(.int x74)]) w
          refine s_if 52 49 rfl rfl rfl (fun (h75 : ¬ x74.toInt = 0) => ?_) (fun (h75 : ¬ (¬ x74.toInt = 0)) => ?_)
          · --
            refine aw_step (f1 := (53, [some (.ref 65), some (.int b), some (.int k), some (.int v), none], [(.int k)])) (w1 := w) rfl rfl ?_
            refine s_if 65 56 rfl rfl rfl (fun (h76 : ¬ k.toInt = 0) => ?_) (fun (h76 : ¬ (¬ k.toInt = 0)) => ?_)
            · --
              refine aw_step (f1 := (66, [some (.ref 65), some (.int b), some (.int k), some (.int v), none], [(.ref 65)])) (w1 := w) rfl rfl ?_
              refine s_gr 68 J 69 rfl rfl rfl rfl rfl rfl ?_
              refine aw_step (f1 := (70, [some (.ref 65), some (.int b), some (.int k), some (.int v), none], [(.int b), (.ref 68)])) (w1 := w) rfl rfl ?_
              refine s_ia J 71 rfl rfl rfl rfl (by omega) (by omega) fun x77 x77a x77b x77f => ?_
              have x77v : x77.toInt = rI w 68 b.toInt.toNat := by rw [← rI_of x77f]
              refine aw_step (f1 := (73, [some (.ref 65), some (.int b), some (.int k), some (.int v), some (.int x77)], [])) (w1 := w) rfl rfl ?_
              refine aw_step (f1 := (74, [some (.ref 65), some (.int b), some (.int k), some (.int v), some (.int x77)], [(.ref 65)])) (w1 := w) rfl rfl ?_
              refine s_gr 67 J 77 rfl rfl rfl rfl rfl rfl ?_
              refine aw_step (f1 := (78, [some (.ref 65), some (.int b), some (.int k), some (.int v), some (.int x77)], [(.int b), (.ref 67)])) (w1 := w) rfl rfl ?_
              refine aw_step (f1 := (79, [some (.ref 65), some (.int b), some (.int k), some (.int v), some (.int x77)], [(.int k), (.int b), (.ref 67)])) (w1 := w) rfl rfl ?_
              refine s_if 86 82 rfl rfl rfl (fun (h78 : ¬ k.toInt = 0) => ?_) (fun (h78 : ¬ (¬ k.toInt = 0)) => ?_)
              · --
                refine aw_step (f1 := (87, [some (.ref 65), some (.int b), some (.int k), some (.int v), some (.int x77)], [(.ref 65), (.int b), (.ref 67)])) (w1 := w) rfl rfl ?_
                refine s_gr 67 J 90 rfl rfl rfl rfl rfl rfl ?_
                refine aw_step (f1 := (91, [some (.ref 65), some (.int b), some (.int k), some (.int v), some (.int x77)], [(.int b), (.ref 67), (.int b), (.ref 67)])) (w1 := w) rfl rfl ?_
                refine s_ia J 92 rfl rfl rfl rfl (by omega) (by omega) fun x79 x79a x79b x79f => ?_
                have x79v : x79.toInt = rI w 67 b.toInt.toNat := by rw [← rI_of x79f]
                refine s_is J 93 rfl rfl rfl rfl (by omega) (by omega) (by omega) (by omega) fun w80 J81 w80e => ?_
                have w80f := rI_st J.1 (p := 67) (j := b.toInt.toNat) rfl (by omega) w80e
                refine aw_step (f1 := (94, [some (.ref 65), some (.int b), some (.int k), some (.int v), some (.int x77)], [(.ref 65)])) (w1 := w80) rfl rfl ?_
                refine s_gr 68 J81 97 rfl rfl rfl rfl rfl rfl ?_
                refine aw_step (f1 := (98, [some (.ref 65), some (.int b), some (.int k), some (.int v), some (.int x77)], [(.int b), (.ref 68)])) (w1 := w80) rfl rfl ?_
                refine aw_step (f1 := (99, [some (.ref 65), some (.int b), some (.int k), some (.int v), some (.int x77)], [(.int k), (.int b), (.ref 68)])) (w1 := w80) rfl rfl ?_
                refine s_i (pc1 := 100) (ls1 := [some (.ref 65), some (.int b), some (.int k), some (.int v), some (.int x77)]) (st1 := [(.int k), (.int b), (.ref 68)]) rfl rfl fun x82 e83 => ?_
                have e83t : x82.toInt = 1 := by rw [e83]; rfl
                refine s_ic 107 103 rfl rfl rfl (fun (h84 : ¬ k.toInt = x82.toInt) => ?_) (fun (h84 : ¬ (¬ k.toInt = x82.toInt)) => ?_)
                · --
                  refine aw_step (f1 := (108, [some (.ref 65), some (.int b), some (.int k), some (.int v), some (.int x77)], [(.ref 65), (.int b), (.ref 68)])) (w1 := w80) rfl rfl ?_
                  refine s_gr 68 J81 111 rfl rfl rfl rfl rfl rfl ?_
                  refine aw_step (f1 := (112, [some (.ref 65), some (.int b), some (.int k), some (.int v), some (.int x77)], [(.int b), (.ref 68), (.int b), (.ref 68)])) (w1 := w80) rfl rfl ?_
                  refine s_ia J81 113 rfl rfl rfl rfl (by omega) (by omega) fun x85 x85a x85b x85f => ?_
                  have x85v : x85.toInt = rI w 68 b.toInt.toNat := by rw [← rI_of x85f, w80f.1.rIe (by decide)]
                  refine s_is J81 114 rfl rfl rfl rfl (by omega) (by omega) (by omega) (by omega) fun w86 J87 w86e => ?_
                  have w86f := rI_st J81.1 (p := 68) (j := b.toInt.toNat) rfl (by omega) w86e
                  refine aw_step (f1 := (116, [some (.ref 65), some (.int b), some (.int k), some (.int v), some (.int x77)], [(.int x77)])) (w1 := w86) rfl rfl ?_
                  refine aw_ret (v := some (.int x77)) rfl rfl ?_
                  exfalso; omega
                · --
                  refine aw_step (f1 := (104, [some (.ref 65), some (.int b), some (.int k), some (.int v), some (.int x77)], [(.int v), (.int b), (.ref 68)])) (w1 := w80) rfl rfl ?_
                  refine aw_step (f1 := (113, [some (.ref 65), some (.int b), some (.int k), some (.int v), some (.int x77)], [(.int v), (.int b), (.ref 68)])) (w1 := w80) rfl rfl ?_
                  refine s_is J81 114 rfl rfl rfl rfl (by omega) (by omega) (by omega) (by omega) fun w88 J89 w88e => ?_
                  have w88f := rI_st J81.1 (p := 68) (j := b.toInt.toNat) rfl (by omega) w88e
                  refine aw_step (f1 := (116, [some (.ref 65), some (.int b), some (.int k), some (.int v), some (.int x77)], [(.int x77)])) (w1 := w88) rfl rfl ?_
                  refine aw_ret (v := some (.int x77)) rfl rfl ?_
                  have v0 : rI w 67 b.toInt.toNat = V (8 + 4 * b.toInt.toNat + 0) := R.ra (i := b.toInt.toNat) (c := 0) (by omega) (by decide)
                  have v1 : rI w 68 b.toInt.toNat = V (8 + 4 * b.toInt.toNat + 1) := R.ra (i := b.toInt.toNat) (c := 1) (by omega) (by decide)
                  have R1 := R.rowa (c := 0) (i := b.toInt.toNat) (by decide) (by omega) w80f
                  have R2 := R1.rowa (c := 1) (i := b.toInt.toNat) (by decide) (by omega) w88f
                  rw [upv_id (V := V) (by omega)] at R2
                  exact ⟨J89.1, ((w80f.1.sub (by decide)).trans (w88f.1.sub (by decide))), by rw [w88f.1.fIe (by decide), w80f.1.fIe (by decide)], x77, rfl, _, R2, Or.inr (Or.inr (Or.inr (⟨by omega, ⟨by omega, by omega⟩, ⟨by omega, by omega, by omega⟩, rfl⟩)))⟩
              · --
                refine aw_step (f1 := (83, [some (.ref 65), some (.int b), some (.int k), some (.int v), some (.int x77)], [(.int v), (.int b), (.ref 67)])) (w1 := w) rfl rfl ?_
                refine aw_step (f1 := (92, [some (.ref 65), some (.int b), some (.int k), some (.int v), some (.int x77)], [(.int v), (.int b), (.ref 67)])) (w1 := w) rfl rfl ?_
                refine s_is J 93 rfl rfl rfl rfl (by omega) (by omega) (by omega) (by omega) fun w90 J91 w90e => ?_
                have w90f := rI_st J.1 (p := 67) (j := b.toInt.toNat) rfl (by omega) w90e
                refine aw_step (f1 := (94, [some (.ref 65), some (.int b), some (.int k), some (.int v), some (.int x77)], [(.ref 65)])) (w1 := w90) rfl rfl ?_
                refine s_gr 68 J91 97 rfl rfl rfl rfl rfl rfl ?_
                refine aw_step (f1 := (98, [some (.ref 65), some (.int b), some (.int k), some (.int v), some (.int x77)], [(.int b), (.ref 68)])) (w1 := w90) rfl rfl ?_
                refine aw_step (f1 := (99, [some (.ref 65), some (.int b), some (.int k), some (.int v), some (.int x77)], [(.int k), (.int b), (.ref 68)])) (w1 := w90) rfl rfl ?_
                refine s_i (pc1 := 100) (ls1 := [some (.ref 65), some (.int b), some (.int k), some (.int v), some (.int x77)]) (st1 := [(.int k), (.int b), (.ref 68)]) rfl rfl fun x92 e93 => ?_
                have e93t : x92.toInt = 1 := by rw [e93]; rfl
                refine s_ic 107 103 rfl rfl rfl (fun (h94 : ¬ k.toInt = x92.toInt) => ?_) (fun (h94 : ¬ (¬ k.toInt = x92.toInt)) => ?_)
                · --
                  refine aw_step (f1 := (108, [some (.ref 65), some (.int b), some (.int k), some (.int v), some (.int x77)], [(.ref 65), (.int b), (.ref 68)])) (w1 := w90) rfl rfl ?_
                  refine s_gr 68 J91 111 rfl rfl rfl rfl rfl rfl ?_
                  refine aw_step (f1 := (112, [some (.ref 65), some (.int b), some (.int k), some (.int v), some (.int x77)], [(.int b), (.ref 68), (.int b), (.ref 68)])) (w1 := w90) rfl rfl ?_
                  refine s_ia J91 113 rfl rfl rfl rfl (by omega) (by omega) fun x95 x95a x95b x95f => ?_
                  have x95v : x95.toInt = rI w 68 b.toInt.toNat := by rw [← rI_of x95f, w90f.1.rIe (by decide)]
                  refine s_is J91 114 rfl rfl rfl rfl (by omega) (by omega) (by omega) (by omega) fun w96 J97 w96e => ?_
                  have w96f := rI_st J91.1 (p := 68) (j := b.toInt.toNat) rfl (by omega) w96e
                  refine aw_step (f1 := (116, [some (.ref 65), some (.int b), some (.int k), some (.int v), some (.int x77)], [(.int x77)])) (w1 := w96) rfl rfl ?_
                  refine aw_ret (v := some (.int x77)) rfl rfl ?_
                  have v0 : rI w 67 b.toInt.toNat = V (8 + 4 * b.toInt.toNat + 0) := R.ra (i := b.toInt.toNat) (c := 0) (by omega) (by decide)
                  have v1 : rI w 68 b.toInt.toNat = V (8 + 4 * b.toInt.toNat + 1) := R.ra (i := b.toInt.toNat) (c := 1) (by omega) (by decide)
                  have R1 := R.rowa (c := 0) (i := b.toInt.toNat) (by decide) (by omega) w90f
                  have R2 := R1.rowa (c := 1) (i := b.toInt.toNat) (by decide) (by omega) w96f
                  rw [upv_id (k := 8 + 4 * b.toInt.toNat + 1) (by rw [upv_n (by omega)]; omega)] at R2
                  exact ⟨J97.1, ((w90f.1.sub (by decide)).trans (w96f.1.sub (by decide))), by rw [w96f.1.fIe (by decide), w90f.1.fIe (by decide)], x77, rfl, _, R2, Or.inr (Or.inr (Or.inl ⟨by omega, ⟨by omega, by omega⟩, ⟨by omega, by omega, by omega⟩, rfl⟩))⟩
                · --
                  refine aw_step (f1 := (104, [some (.ref 65), some (.int b), some (.int k), some (.int v), some (.int x77)], [(.int v), (.int b), (.ref 68)])) (w1 := w90) rfl rfl ?_
                  refine aw_step (f1 := (113, [some (.ref 65), some (.int b), some (.int k), some (.int v), some (.int x77)], [(.int v), (.int b), (.ref 68)])) (w1 := w90) rfl rfl ?_
                  refine s_is J91 114 rfl rfl rfl rfl (by omega) (by omega) (by omega) (by omega) fun w98 J99 w98e => ?_
                  have w98f := rI_st J91.1 (p := 68) (j := b.toInt.toNat) rfl (by omega) w98e
                  refine aw_step (f1 := (116, [some (.ref 65), some (.int b), some (.int k), some (.int v), some (.int x77)], [(.int x77)])) (w1 := w98) rfl rfl ?_
                  refine aw_ret (v := some (.int x77)) rfl rfl ?_
                  exfalso; omega
            · --
              refine aw_step (f1 := (57, [some (.ref 65), some (.int b), some (.int k), some (.int v), none], [(.ref 65)])) (w1 := w) rfl rfl ?_
              refine s_gr 67 J 60 rfl rfl rfl rfl rfl rfl ?_
              refine aw_step (f1 := (61, [some (.ref 65), some (.int b), some (.int k), some (.int v), none], [(.int b), (.ref 67)])) (w1 := w) rfl rfl ?_
              refine s_ia J 62 rfl rfl rfl rfl (by omega) (by omega) fun x100 x100a x100b x100f => ?_
              have x100v : x100.toInt = rI w 67 b.toInt.toNat := by rw [← rI_of x100f]
              refine aw_step (f1 := (71, [some (.ref 65), some (.int b), some (.int k), some (.int v), none], [(.int x100)])) (w1 := w) rfl rfl ?_
              refine aw_step (f1 := (73, [some (.ref 65), some (.int b), some (.int k), some (.int v), some (.int x100)], [])) (w1 := w) rfl rfl ?_
              refine aw_step (f1 := (74, [some (.ref 65), some (.int b), some (.int k), some (.int v), some (.int x100)], [(.ref 65)])) (w1 := w) rfl rfl ?_
              refine s_gr 67 J 77 rfl rfl rfl rfl rfl rfl ?_
              refine aw_step (f1 := (78, [some (.ref 65), some (.int b), some (.int k), some (.int v), some (.int x100)], [(.int b), (.ref 67)])) (w1 := w) rfl rfl ?_
              refine aw_step (f1 := (79, [some (.ref 65), some (.int b), some (.int k), some (.int v), some (.int x100)], [(.int k), (.int b), (.ref 67)])) (w1 := w) rfl rfl ?_
              refine s_if 86 82 rfl rfl rfl (fun (h101 : ¬ k.toInt = 0) => ?_) (fun (h101 : ¬ (¬ k.toInt = 0)) => ?_)
              · --
                refine aw_step (f1 := (87, [some (.ref 65), some (.int b), some (.int k), some (.int v), some (.int x100)], [(.ref 65), (.int b), (.ref 67)])) (w1 := w) rfl rfl ?_
                refine s_gr 67 J 90 rfl rfl rfl rfl rfl rfl ?_
                refine aw_step (f1 := (91, [some (.ref 65), some (.int b), some (.int k), some (.int v), some (.int x100)], [(.int b), (.ref 67), (.int b), (.ref 67)])) (w1 := w) rfl rfl ?_
                refine s_ia J 92 rfl rfl rfl rfl (by omega) (by omega) fun x102 x102a x102b x102f => ?_
                have x102v : x102.toInt = rI w 67 b.toInt.toNat := by rw [← rI_of x102f]
                refine s_is J 93 rfl rfl rfl rfl (by omega) (by omega) (by omega) (by omega) fun w103 J104 w103e => ?_
                have w103f := rI_st J.1 (p := 67) (j := b.toInt.toNat) rfl (by omega) w103e
                refine aw_step (f1 := (94, [some (.ref 65), some (.int b), some (.int k), some (.int v), some (.int x100)], [(.ref 65)])) (w1 := w103) rfl rfl ?_
                refine s_gr 68 J104 97 rfl rfl rfl rfl rfl rfl ?_
                refine aw_step (f1 := (98, [some (.ref 65), some (.int b), some (.int k), some (.int v), some (.int x100)], [(.int b), (.ref 68)])) (w1 := w103) rfl rfl ?_
                refine aw_step (f1 := (99, [some (.ref 65), some (.int b), some (.int k), some (.int v), some (.int x100)], [(.int k), (.int b), (.ref 68)])) (w1 := w103) rfl rfl ?_
                refine s_i (pc1 := 100) (ls1 := [some (.ref 65), some (.int b), some (.int k), some (.int v), some (.int x100)]) (st1 := [(.int k), (.int b), (.ref 68)]) rfl rfl fun x105 e106 => ?_
                have e106t : x105.toInt = 1 := by rw [e106]; rfl
                refine s_ic 107 103 rfl rfl rfl (fun (h107 : ¬ k.toInt = x105.toInt) => ?_) (fun (h107 : ¬ (¬ k.toInt = x105.toInt)) => ?_)
                · --
                  refine aw_step (f1 := (108, [some (.ref 65), some (.int b), some (.int k), some (.int v), some (.int x100)], [(.ref 65), (.int b), (.ref 68)])) (w1 := w103) rfl rfl ?_
                  refine s_gr 68 J104 111 rfl rfl rfl rfl rfl rfl ?_
                  refine aw_step (f1 := (112, [some (.ref 65), some (.int b), some (.int k), some (.int v), some (.int x100)], [(.int b), (.ref 68), (.int b), (.ref 68)])) (w1 := w103) rfl rfl ?_
                  refine s_ia J104 113 rfl rfl rfl rfl (by omega) (by omega) fun x108 x108a x108b x108f => ?_
                  have x108v : x108.toInt = rI w 68 b.toInt.toNat := by rw [← rI_of x108f, w103f.1.rIe (by decide)]
                  refine s_is J104 114 rfl rfl rfl rfl (by omega) (by omega) (by omega) (by omega) fun w109 J110 w109e => ?_
                  have w109f := rI_st J104.1 (p := 68) (j := b.toInt.toNat) rfl (by omega) w109e
                  refine aw_step (f1 := (116, [some (.ref 65), some (.int b), some (.int k), some (.int v), some (.int x100)], [(.int x100)])) (w1 := w109) rfl rfl ?_
                  refine aw_ret (v := some (.int x100)) rfl rfl ?_
                  exfalso; omega
                · --
                  refine aw_step (f1 := (104, [some (.ref 65), some (.int b), some (.int k), some (.int v), some (.int x100)], [(.int v), (.int b), (.ref 68)])) (w1 := w103) rfl rfl ?_
                  refine aw_step (f1 := (113, [some (.ref 65), some (.int b), some (.int k), some (.int v), some (.int x100)], [(.int v), (.int b), (.ref 68)])) (w1 := w103) rfl rfl ?_
                  refine s_is J104 114 rfl rfl rfl rfl (by omega) (by omega) (by omega) (by omega) fun w111 J112 w111e => ?_
                  have w111f := rI_st J104.1 (p := 68) (j := b.toInt.toNat) rfl (by omega) w111e
                  refine aw_step (f1 := (116, [some (.ref 65), some (.int b), some (.int k), some (.int v), some (.int x100)], [(.int x100)])) (w1 := w111) rfl rfl ?_
                  refine aw_ret (v := some (.int x100)) rfl rfl ?_
                  have v0 : rI w 67 b.toInt.toNat = V (8 + 4 * b.toInt.toNat + 0) := R.ra (i := b.toInt.toNat) (c := 0) (by omega) (by decide)
                  have v1 : rI w 68 b.toInt.toNat = V (8 + 4 * b.toInt.toNat + 1) := R.ra (i := b.toInt.toNat) (c := 1) (by omega) (by decide)
                  have R1 := R.rowa (c := 0) (i := b.toInt.toNat) (by decide) (by omega) w103f
                  have R2 := R1.rowa (c := 1) (i := b.toInt.toNat) (by decide) (by omega) w111f
                  rw [upv_id (V := V) (by omega)] at R2
                  exact ⟨J112.1, ((w103f.1.sub (by decide)).trans (w111f.1.sub (by decide))), by rw [w111f.1.fIe (by decide), w103f.1.fIe (by decide)], x100, rfl, _, R2, Or.inr (Or.inr (Or.inr (⟨by omega, ⟨by omega, by omega⟩, ⟨by omega, by omega, by omega⟩, rfl⟩)))⟩
              · --
                refine aw_step (f1 := (83, [some (.ref 65), some (.int b), some (.int k), some (.int v), some (.int x100)], [(.int v), (.int b), (.ref 67)])) (w1 := w) rfl rfl ?_
                refine aw_step (f1 := (92, [some (.ref 65), some (.int b), some (.int k), some (.int v), some (.int x100)], [(.int v), (.int b), (.ref 67)])) (w1 := w) rfl rfl ?_
                refine s_is J 93 rfl rfl rfl rfl (by omega) (by omega) (by omega) (by omega) fun w113 J114 w113e => ?_
                have w113f := rI_st J.1 (p := 67) (j := b.toInt.toNat) rfl (by omega) w113e
                refine aw_step (f1 := (94, [some (.ref 65), some (.int b), some (.int k), some (.int v), some (.int x100)], [(.ref 65)])) (w1 := w113) rfl rfl ?_
                refine s_gr 68 J114 97 rfl rfl rfl rfl rfl rfl ?_
                refine aw_step (f1 := (98, [some (.ref 65), some (.int b), some (.int k), some (.int v), some (.int x100)], [(.int b), (.ref 68)])) (w1 := w113) rfl rfl ?_
                refine aw_step (f1 := (99, [some (.ref 65), some (.int b), some (.int k), some (.int v), some (.int x100)], [(.int k), (.int b), (.ref 68)])) (w1 := w113) rfl rfl ?_
                refine s_i (pc1 := 100) (ls1 := [some (.ref 65), some (.int b), some (.int k), some (.int v), some (.int x100)]) (st1 := [(.int k), (.int b), (.ref 68)]) rfl rfl fun x115 e116 => ?_
                have e116t : x115.toInt = 1 := by rw [e116]; rfl
                refine s_ic 107 103 rfl rfl rfl (fun (h117 : ¬ k.toInt = x115.toInt) => ?_) (fun (h117 : ¬ (¬ k.toInt = x115.toInt)) => ?_)
                · --
                  refine aw_step (f1 := (108, [some (.ref 65), some (.int b), some (.int k), some (.int v), some (.int x100)], [(.ref 65), (.int b), (.ref 68)])) (w1 := w113) rfl rfl ?_
                  refine s_gr 68 J114 111 rfl rfl rfl rfl rfl rfl ?_
                  refine aw_step (f1 := (112, [some (.ref 65), some (.int b), some (.int k), some (.int v), some (.int x100)], [(.int b), (.ref 68), (.int b), (.ref 68)])) (w1 := w113) rfl rfl ?_
                  refine s_ia J114 113 rfl rfl rfl rfl (by omega) (by omega) fun x118 x118a x118b x118f => ?_
                  have x118v : x118.toInt = rI w 68 b.toInt.toNat := by rw [← rI_of x118f, w113f.1.rIe (by decide)]
                  refine s_is J114 114 rfl rfl rfl rfl (by omega) (by omega) (by omega) (by omega) fun w119 J120 w119e => ?_
                  have w119f := rI_st J114.1 (p := 68) (j := b.toInt.toNat) rfl (by omega) w119e
                  refine aw_step (f1 := (116, [some (.ref 65), some (.int b), some (.int k), some (.int v), some (.int x100)], [(.int x100)])) (w1 := w119) rfl rfl ?_
                  refine aw_ret (v := some (.int x100)) rfl rfl ?_
                  have v0 : rI w 67 b.toInt.toNat = V (8 + 4 * b.toInt.toNat + 0) := R.ra (i := b.toInt.toNat) (c := 0) (by omega) (by decide)
                  have v1 : rI w 68 b.toInt.toNat = V (8 + 4 * b.toInt.toNat + 1) := R.ra (i := b.toInt.toNat) (c := 1) (by omega) (by decide)
                  have R1 := R.rowa (c := 0) (i := b.toInt.toNat) (by decide) (by omega) w113f
                  have R2 := R1.rowa (c := 1) (i := b.toInt.toNat) (by decide) (by omega) w119f
                  rw [upv_id (k := 8 + 4 * b.toInt.toNat + 1) (by rw [upv_n (by omega)]; omega)] at R2
                  exact ⟨J120.1, ((w113f.1.sub (by decide)).trans (w119f.1.sub (by decide))), by rw [w119f.1.fIe (by decide), w113f.1.fIe (by decide)], x100, rfl, _, R2, Or.inr (Or.inr (Or.inl ⟨by omega, ⟨by omega, by omega⟩, ⟨by omega, by omega, by omega⟩, rfl⟩))⟩
                · --
                  refine aw_step (f1 := (104, [some (.ref 65), some (.int b), some (.int k), some (.int v), some (.int x100)], [(.int v), (.int b), (.ref 68)])) (w1 := w113) rfl rfl ?_
                  refine aw_step (f1 := (113, [some (.ref 65), some (.int b), some (.int k), some (.int v), some (.int x100)], [(.int v), (.int b), (.ref 68)])) (w1 := w113) rfl rfl ?_
                  refine s_is J114 114 rfl rfl rfl rfl (by omega) (by omega) (by omega) (by omega) fun w121 J122 w121e => ?_
                  have w121f := rI_st J114.1 (p := 68) (j := b.toInt.toNat) rfl (by omega) w121e
                  refine aw_step (f1 := (116, [some (.ref 65), some (.int b), some (.int k), some (.int v), some (.int x100)], [(.int x100)])) (w1 := w121) rfl rfl ?_
                  refine aw_ret (v := some (.int x100)) rfl rfl ?_
                  exfalso; omega
          · --
            refine s_i (pc1 := 51) (ls1 := [some (.ref 65), some (.int b), some (.int k), some (.int v), none]) (st1 := []) rfl rfl fun x123 e124 => ?_
            have e124t : x123.toInt = -2 := by rw [e124]; rfl
            refine aw_ret (v := some (.int x123)) rfl rfl ?_
            exact ⟨J.1, only.rf, rfl, x123, rfl, _, R, by first | exact Or.inl ⟨by omega, by omega, rfl⟩ | exact Or.inr (Or.inl ⟨by omega, ⟨by omega, by omega⟩, by omega, by omega, rfl⟩)⟩
      · --
        refine s_l (pc1 := 26) (ls1 := [some (.ref 65), some (.int b), some (.int k), some (.int v), none]) (st1 := [(.long y13)]) rfl rfl fun y125 e126 => ?_
        have e126t : y125.toInt = 1 := by rw [e126]; rfl
        refine aw_step (f1 := (30, [some (.ref 65), some (.int b), some (.int k), some (.int v), none], [(.long y125), (.long y13)])) (w1 := w) rfl rfl ?_
        refine aw_step (f1 := (31, [some (.ref 65), some (.int b), some (.int k), some (.int v), none], [(.int k), (.long y125), (.long y13)])) (w1 := w) rfl rfl ?_
        refine s_if 40 34 rfl rfl rfl (fun (h127 : ¬ k.toInt = 0) => ?_) (fun (h127 : ¬ (¬ k.toInt = 0)) => ?_)
        · --
          refine s_l (pc1 := 43) (ls1 := [some (.ref 65), some (.int b), some (.int k), some (.int v), none]) (st1 := [(.long y125), (.long y13)]) rfl rfl fun y128 e129 => ?_
          have e129t : y128.toInt = 99 := by rw [e129]; rfl
          refine s_cs (z := 108) (as := [(.long y13), (.long y125), (.long y128)]) (st1 := []) 46 rfl rfl rfl rfl rfl rfl (Nat.le_of_ble_eq_true rfl) (Nat.le_of_ble_eq_true rfl) (Nat.le_of_ble_eq_true rfl) (q_in2 y13 y125 y128) ?_
          rintro _ _ ⟨rfl, x130, rfl, x130t⟩
          refine ⟨rfl, ?_⟩
          show aw none _ 128 _ (46, [some (.ref 65), some (.int b), some (.int k), some (.int v), none], [(.int x130)]) w
          refine s_if 52 49 rfl rfl rfl (fun (h131 : ¬ x130.toInt = 0) => ?_) (fun (h131 : ¬ (¬ x130.toInt = 0)) => ?_)
          · --
            refine aw_step (f1 := (53, [some (.ref 65), some (.int b), some (.int k), some (.int v), none], [(.int k)])) (w1 := w) rfl rfl ?_
            refine s_if 65 56 rfl rfl rfl (fun (h132 : ¬ k.toInt = 0) => ?_) (fun (h132 : ¬ (¬ k.toInt = 0)) => ?_)
            · --
              refine aw_step (f1 := (66, [some (.ref 65), some (.int b), some (.int k), some (.int v), none], [(.ref 65)])) (w1 := w) rfl rfl ?_
              refine s_gr 68 J 69 rfl rfl rfl rfl rfl rfl ?_
              refine aw_step (f1 := (70, [some (.ref 65), some (.int b), some (.int k), some (.int v), none], [(.int b), (.ref 68)])) (w1 := w) rfl rfl ?_
              refine s_ia J 71 rfl rfl rfl rfl (by omega) (by omega) fun x133 x133a x133b x133f => ?_
              have x133v : x133.toInt = rI w 68 b.toInt.toNat := by rw [← rI_of x133f]
              refine aw_step (f1 := (73, [some (.ref 65), some (.int b), some (.int k), some (.int v), some (.int x133)], [])) (w1 := w) rfl rfl ?_
              refine aw_step (f1 := (74, [some (.ref 65), some (.int b), some (.int k), some (.int v), some (.int x133)], [(.ref 65)])) (w1 := w) rfl rfl ?_
              refine s_gr 67 J 77 rfl rfl rfl rfl rfl rfl ?_
              refine aw_step (f1 := (78, [some (.ref 65), some (.int b), some (.int k), some (.int v), some (.int x133)], [(.int b), (.ref 67)])) (w1 := w) rfl rfl ?_
              refine aw_step (f1 := (79, [some (.ref 65), some (.int b), some (.int k), some (.int v), some (.int x133)], [(.int k), (.int b), (.ref 67)])) (w1 := w) rfl rfl ?_
              refine s_if 86 82 rfl rfl rfl (fun (h134 : ¬ k.toInt = 0) => ?_) (fun (h134 : ¬ (¬ k.toInt = 0)) => ?_)
              · --
                refine aw_step (f1 := (87, [some (.ref 65), some (.int b), some (.int k), some (.int v), some (.int x133)], [(.ref 65), (.int b), (.ref 67)])) (w1 := w) rfl rfl ?_
                refine s_gr 67 J 90 rfl rfl rfl rfl rfl rfl ?_
                refine aw_step (f1 := (91, [some (.ref 65), some (.int b), some (.int k), some (.int v), some (.int x133)], [(.int b), (.ref 67), (.int b), (.ref 67)])) (w1 := w) rfl rfl ?_
                refine s_ia J 92 rfl rfl rfl rfl (by omega) (by omega) fun x135 x135a x135b x135f => ?_
                have x135v : x135.toInt = rI w 67 b.toInt.toNat := by rw [← rI_of x135f]
                refine s_is J 93 rfl rfl rfl rfl (by omega) (by omega) (by omega) (by omega) fun w136 J137 w136e => ?_
                have w136f := rI_st J.1 (p := 67) (j := b.toInt.toNat) rfl (by omega) w136e
                refine aw_step (f1 := (94, [some (.ref 65), some (.int b), some (.int k), some (.int v), some (.int x133)], [(.ref 65)])) (w1 := w136) rfl rfl ?_
                refine s_gr 68 J137 97 rfl rfl rfl rfl rfl rfl ?_
                refine aw_step (f1 := (98, [some (.ref 65), some (.int b), some (.int k), some (.int v), some (.int x133)], [(.int b), (.ref 68)])) (w1 := w136) rfl rfl ?_
                refine aw_step (f1 := (99, [some (.ref 65), some (.int b), some (.int k), some (.int v), some (.int x133)], [(.int k), (.int b), (.ref 68)])) (w1 := w136) rfl rfl ?_
                refine s_i (pc1 := 100) (ls1 := [some (.ref 65), some (.int b), some (.int k), some (.int v), some (.int x133)]) (st1 := [(.int k), (.int b), (.ref 68)]) rfl rfl fun x138 e139 => ?_
                have e139t : x138.toInt = 1 := by rw [e139]; rfl
                refine s_ic 107 103 rfl rfl rfl (fun (h140 : ¬ k.toInt = x138.toInt) => ?_) (fun (h140 : ¬ (¬ k.toInt = x138.toInt)) => ?_)
                · --
                  refine aw_step (f1 := (108, [some (.ref 65), some (.int b), some (.int k), some (.int v), some (.int x133)], [(.ref 65), (.int b), (.ref 68)])) (w1 := w136) rfl rfl ?_
                  refine s_gr 68 J137 111 rfl rfl rfl rfl rfl rfl ?_
                  refine aw_step (f1 := (112, [some (.ref 65), some (.int b), some (.int k), some (.int v), some (.int x133)], [(.int b), (.ref 68), (.int b), (.ref 68)])) (w1 := w136) rfl rfl ?_
                  refine s_ia J137 113 rfl rfl rfl rfl (by omega) (by omega) fun x141 x141a x141b x141f => ?_
                  have x141v : x141.toInt = rI w 68 b.toInt.toNat := by rw [← rI_of x141f, w136f.1.rIe (by decide)]
                  refine s_is J137 114 rfl rfl rfl rfl (by omega) (by omega) (by omega) (by omega) fun w142 J143 w142e => ?_
                  have w142f := rI_st J137.1 (p := 68) (j := b.toInt.toNat) rfl (by omega) w142e
                  refine aw_step (f1 := (116, [some (.ref 65), some (.int b), some (.int k), some (.int v), some (.int x133)], [(.int x133)])) (w1 := w142) rfl rfl ?_
                  refine aw_ret (v := some (.int x133)) rfl rfl ?_
                  exfalso; omega
                · --
                  refine aw_step (f1 := (104, [some (.ref 65), some (.int b), some (.int k), some (.int v), some (.int x133)], [(.int v), (.int b), (.ref 68)])) (w1 := w136) rfl rfl ?_
                  refine aw_step (f1 := (113, [some (.ref 65), some (.int b), some (.int k), some (.int v), some (.int x133)], [(.int v), (.int b), (.ref 68)])) (w1 := w136) rfl rfl ?_
                  refine s_is J137 114 rfl rfl rfl rfl (by omega) (by omega) (by omega) (by omega) fun w144 J145 w144e => ?_
                  have w144f := rI_st J137.1 (p := 68) (j := b.toInt.toNat) rfl (by omega) w144e
                  refine aw_step (f1 := (116, [some (.ref 65), some (.int b), some (.int k), some (.int v), some (.int x133)], [(.int x133)])) (w1 := w144) rfl rfl ?_
                  refine aw_ret (v := some (.int x133)) rfl rfl ?_
                  have v0 : rI w 67 b.toInt.toNat = V (8 + 4 * b.toInt.toNat + 0) := R.ra (i := b.toInt.toNat) (c := 0) (by omega) (by decide)
                  have v1 : rI w 68 b.toInt.toNat = V (8 + 4 * b.toInt.toNat + 1) := R.ra (i := b.toInt.toNat) (c := 1) (by omega) (by decide)
                  have R1 := R.rowa (c := 0) (i := b.toInt.toNat) (by decide) (by omega) w136f
                  have R2 := R1.rowa (c := 1) (i := b.toInt.toNat) (by decide) (by omega) w144f
                  rw [upv_id (V := V) (by omega)] at R2
                  exact ⟨J145.1, ((w136f.1.sub (by decide)).trans (w144f.1.sub (by decide))), by rw [w144f.1.fIe (by decide), w136f.1.fIe (by decide)], x133, rfl, _, R2, Or.inr (Or.inr (Or.inr (⟨by omega, ⟨by omega, by omega⟩, ⟨by omega, by omega, by omega⟩, rfl⟩)))⟩
              · --
                refine aw_step (f1 := (83, [some (.ref 65), some (.int b), some (.int k), some (.int v), some (.int x133)], [(.int v), (.int b), (.ref 67)])) (w1 := w) rfl rfl ?_
                refine aw_step (f1 := (92, [some (.ref 65), some (.int b), some (.int k), some (.int v), some (.int x133)], [(.int v), (.int b), (.ref 67)])) (w1 := w) rfl rfl ?_
                refine s_is J 93 rfl rfl rfl rfl (by omega) (by omega) (by omega) (by omega) fun w146 J147 w146e => ?_
                have w146f := rI_st J.1 (p := 67) (j := b.toInt.toNat) rfl (by omega) w146e
                refine aw_step (f1 := (94, [some (.ref 65), some (.int b), some (.int k), some (.int v), some (.int x133)], [(.ref 65)])) (w1 := w146) rfl rfl ?_
                refine s_gr 68 J147 97 rfl rfl rfl rfl rfl rfl ?_
                refine aw_step (f1 := (98, [some (.ref 65), some (.int b), some (.int k), some (.int v), some (.int x133)], [(.int b), (.ref 68)])) (w1 := w146) rfl rfl ?_
                refine aw_step (f1 := (99, [some (.ref 65), some (.int b), some (.int k), some (.int v), some (.int x133)], [(.int k), (.int b), (.ref 68)])) (w1 := w146) rfl rfl ?_
                refine s_i (pc1 := 100) (ls1 := [some (.ref 65), some (.int b), some (.int k), some (.int v), some (.int x133)]) (st1 := [(.int k), (.int b), (.ref 68)]) rfl rfl fun x148 e149 => ?_
                have e149t : x148.toInt = 1 := by rw [e149]; rfl
                refine s_ic 107 103 rfl rfl rfl (fun (h150 : ¬ k.toInt = x148.toInt) => ?_) (fun (h150 : ¬ (¬ k.toInt = x148.toInt)) => ?_)
                · --
                  refine aw_step (f1 := (108, [some (.ref 65), some (.int b), some (.int k), some (.int v), some (.int x133)], [(.ref 65), (.int b), (.ref 68)])) (w1 := w146) rfl rfl ?_
                  refine s_gr 68 J147 111 rfl rfl rfl rfl rfl rfl ?_
                  refine aw_step (f1 := (112, [some (.ref 65), some (.int b), some (.int k), some (.int v), some (.int x133)], [(.int b), (.ref 68), (.int b), (.ref 68)])) (w1 := w146) rfl rfl ?_
                  refine s_ia J147 113 rfl rfl rfl rfl (by omega) (by omega) fun x151 x151a x151b x151f => ?_
                  have x151v : x151.toInt = rI w 68 b.toInt.toNat := by rw [← rI_of x151f, w146f.1.rIe (by decide)]
                  refine s_is J147 114 rfl rfl rfl rfl (by omega) (by omega) (by omega) (by omega) fun w152 J153 w152e => ?_
                  have w152f := rI_st J147.1 (p := 68) (j := b.toInt.toNat) rfl (by omega) w152e
                  refine aw_step (f1 := (116, [some (.ref 65), some (.int b), some (.int k), some (.int v), some (.int x133)], [(.int x133)])) (w1 := w152) rfl rfl ?_
                  refine aw_ret (v := some (.int x133)) rfl rfl ?_
                  have v0 : rI w 67 b.toInt.toNat = V (8 + 4 * b.toInt.toNat + 0) := R.ra (i := b.toInt.toNat) (c := 0) (by omega) (by decide)
                  have v1 : rI w 68 b.toInt.toNat = V (8 + 4 * b.toInt.toNat + 1) := R.ra (i := b.toInt.toNat) (c := 1) (by omega) (by decide)
                  have R1 := R.rowa (c := 0) (i := b.toInt.toNat) (by decide) (by omega) w146f
                  have R2 := R1.rowa (c := 1) (i := b.toInt.toNat) (by decide) (by omega) w152f
                  rw [upv_id (k := 8 + 4 * b.toInt.toNat + 1) (by rw [upv_n (by omega)]; omega)] at R2
                  exact ⟨J153.1, ((w146f.1.sub (by decide)).trans (w152f.1.sub (by decide))), by rw [w152f.1.fIe (by decide), w146f.1.fIe (by decide)], x133, rfl, _, R2, Or.inr (Or.inr (Or.inl ⟨by omega, ⟨by omega, by omega⟩, ⟨by omega, by omega, by omega⟩, rfl⟩))⟩
                · --
                  refine aw_step (f1 := (104, [some (.ref 65), some (.int b), some (.int k), some (.int v), some (.int x133)], [(.int v), (.int b), (.ref 68)])) (w1 := w146) rfl rfl ?_
                  refine aw_step (f1 := (113, [some (.ref 65), some (.int b), some (.int k), some (.int v), some (.int x133)], [(.int v), (.int b), (.ref 68)])) (w1 := w146) rfl rfl ?_
                  refine s_is J147 114 rfl rfl rfl rfl (by omega) (by omega) (by omega) (by omega) fun w154 J155 w154e => ?_
                  have w154f := rI_st J147.1 (p := 68) (j := b.toInt.toNat) rfl (by omega) w154e
                  refine aw_step (f1 := (116, [some (.ref 65), some (.int b), some (.int k), some (.int v), some (.int x133)], [(.int x133)])) (w1 := w154) rfl rfl ?_
                  refine aw_ret (v := some (.int x133)) rfl rfl ?_
                  exfalso; omega
            · --
              refine aw_step (f1 := (57, [some (.ref 65), some (.int b), some (.int k), some (.int v), none], [(.ref 65)])) (w1 := w) rfl rfl ?_
              refine s_gr 67 J 60 rfl rfl rfl rfl rfl rfl ?_
              refine aw_step (f1 := (61, [some (.ref 65), some (.int b), some (.int k), some (.int v), none], [(.int b), (.ref 67)])) (w1 := w) rfl rfl ?_
              refine s_ia J 62 rfl rfl rfl rfl (by omega) (by omega) fun x156 x156a x156b x156f => ?_
              have x156v : x156.toInt = rI w 67 b.toInt.toNat := by rw [← rI_of x156f]
              refine aw_step (f1 := (71, [some (.ref 65), some (.int b), some (.int k), some (.int v), none], [(.int x156)])) (w1 := w) rfl rfl ?_
              refine aw_step (f1 := (73, [some (.ref 65), some (.int b), some (.int k), some (.int v), some (.int x156)], [])) (w1 := w) rfl rfl ?_
              refine aw_step (f1 := (74, [some (.ref 65), some (.int b), some (.int k), some (.int v), some (.int x156)], [(.ref 65)])) (w1 := w) rfl rfl ?_
              refine s_gr 67 J 77 rfl rfl rfl rfl rfl rfl ?_
              refine aw_step (f1 := (78, [some (.ref 65), some (.int b), some (.int k), some (.int v), some (.int x156)], [(.int b), (.ref 67)])) (w1 := w) rfl rfl ?_
              refine aw_step (f1 := (79, [some (.ref 65), some (.int b), some (.int k), some (.int v), some (.int x156)], [(.int k), (.int b), (.ref 67)])) (w1 := w) rfl rfl ?_
              refine s_if 86 82 rfl rfl rfl (fun (h157 : ¬ k.toInt = 0) => ?_) (fun (h157 : ¬ (¬ k.toInt = 0)) => ?_)
              · --
                refine aw_step (f1 := (87, [some (.ref 65), some (.int b), some (.int k), some (.int v), some (.int x156)], [(.ref 65), (.int b), (.ref 67)])) (w1 := w) rfl rfl ?_
                refine s_gr 67 J 90 rfl rfl rfl rfl rfl rfl ?_
                refine aw_step (f1 := (91, [some (.ref 65), some (.int b), some (.int k), some (.int v), some (.int x156)], [(.int b), (.ref 67), (.int b), (.ref 67)])) (w1 := w) rfl rfl ?_
                refine s_ia J 92 rfl rfl rfl rfl (by omega) (by omega) fun x158 x158a x158b x158f => ?_
                have x158v : x158.toInt = rI w 67 b.toInt.toNat := by rw [← rI_of x158f]
                refine s_is J 93 rfl rfl rfl rfl (by omega) (by omega) (by omega) (by omega) fun w159 J160 w159e => ?_
                have w159f := rI_st J.1 (p := 67) (j := b.toInt.toNat) rfl (by omega) w159e
                refine aw_step (f1 := (94, [some (.ref 65), some (.int b), some (.int k), some (.int v), some (.int x156)], [(.ref 65)])) (w1 := w159) rfl rfl ?_
                refine s_gr 68 J160 97 rfl rfl rfl rfl rfl rfl ?_
                refine aw_step (f1 := (98, [some (.ref 65), some (.int b), some (.int k), some (.int v), some (.int x156)], [(.int b), (.ref 68)])) (w1 := w159) rfl rfl ?_
                refine aw_step (f1 := (99, [some (.ref 65), some (.int b), some (.int k), some (.int v), some (.int x156)], [(.int k), (.int b), (.ref 68)])) (w1 := w159) rfl rfl ?_
                refine s_i (pc1 := 100) (ls1 := [some (.ref 65), some (.int b), some (.int k), some (.int v), some (.int x156)]) (st1 := [(.int k), (.int b), (.ref 68)]) rfl rfl fun x161 e162 => ?_
                have e162t : x161.toInt = 1 := by rw [e162]; rfl
                refine s_ic 107 103 rfl rfl rfl (fun (h163 : ¬ k.toInt = x161.toInt) => ?_) (fun (h163 : ¬ (¬ k.toInt = x161.toInt)) => ?_)
                · --
                  refine aw_step (f1 := (108, [some (.ref 65), some (.int b), some (.int k), some (.int v), some (.int x156)], [(.ref 65), (.int b), (.ref 68)])) (w1 := w159) rfl rfl ?_
                  refine s_gr 68 J160 111 rfl rfl rfl rfl rfl rfl ?_
                  refine aw_step (f1 := (112, [some (.ref 65), some (.int b), some (.int k), some (.int v), some (.int x156)], [(.int b), (.ref 68), (.int b), (.ref 68)])) (w1 := w159) rfl rfl ?_
                  refine s_ia J160 113 rfl rfl rfl rfl (by omega) (by omega) fun x164 x164a x164b x164f => ?_
                  have x164v : x164.toInt = rI w 68 b.toInt.toNat := by rw [← rI_of x164f, w159f.1.rIe (by decide)]
                  refine s_is J160 114 rfl rfl rfl rfl (by omega) (by omega) (by omega) (by omega) fun w165 J166 w165e => ?_
                  have w165f := rI_st J160.1 (p := 68) (j := b.toInt.toNat) rfl (by omega) w165e
                  refine aw_step (f1 := (116, [some (.ref 65), some (.int b), some (.int k), some (.int v), some (.int x156)], [(.int x156)])) (w1 := w165) rfl rfl ?_
                  refine aw_ret (v := some (.int x156)) rfl rfl ?_
                  exfalso; omega
                · --
                  refine aw_step (f1 := (104, [some (.ref 65), some (.int b), some (.int k), some (.int v), some (.int x156)], [(.int v), (.int b), (.ref 68)])) (w1 := w159) rfl rfl ?_
                  refine aw_step (f1 := (113, [some (.ref 65), some (.int b), some (.int k), some (.int v), some (.int x156)], [(.int v), (.int b), (.ref 68)])) (w1 := w159) rfl rfl ?_
                  refine s_is J160 114 rfl rfl rfl rfl (by omega) (by omega) (by omega) (by omega) fun w167 J168 w167e => ?_
                  have w167f := rI_st J160.1 (p := 68) (j := b.toInt.toNat) rfl (by omega) w167e
                  refine aw_step (f1 := (116, [some (.ref 65), some (.int b), some (.int k), some (.int v), some (.int x156)], [(.int x156)])) (w1 := w167) rfl rfl ?_
                  refine aw_ret (v := some (.int x156)) rfl rfl ?_
                  have v0 : rI w 67 b.toInt.toNat = V (8 + 4 * b.toInt.toNat + 0) := R.ra (i := b.toInt.toNat) (c := 0) (by omega) (by decide)
                  have v1 : rI w 68 b.toInt.toNat = V (8 + 4 * b.toInt.toNat + 1) := R.ra (i := b.toInt.toNat) (c := 1) (by omega) (by decide)
                  have R1 := R.rowa (c := 0) (i := b.toInt.toNat) (by decide) (by omega) w159f
                  have R2 := R1.rowa (c := 1) (i := b.toInt.toNat) (by decide) (by omega) w167f
                  rw [upv_id (V := V) (by omega)] at R2
                  exact ⟨J168.1, ((w159f.1.sub (by decide)).trans (w167f.1.sub (by decide))), by rw [w167f.1.fIe (by decide), w159f.1.fIe (by decide)], x156, rfl, _, R2, Or.inr (Or.inr (Or.inr (⟨by omega, ⟨by omega, by omega⟩, ⟨by omega, by omega, by omega⟩, rfl⟩)))⟩
              · --
                refine aw_step (f1 := (83, [some (.ref 65), some (.int b), some (.int k), some (.int v), some (.int x156)], [(.int v), (.int b), (.ref 67)])) (w1 := w) rfl rfl ?_
                refine aw_step (f1 := (92, [some (.ref 65), some (.int b), some (.int k), some (.int v), some (.int x156)], [(.int v), (.int b), (.ref 67)])) (w1 := w) rfl rfl ?_
                refine s_is J 93 rfl rfl rfl rfl (by omega) (by omega) (by omega) (by omega) fun w169 J170 w169e => ?_
                have w169f := rI_st J.1 (p := 67) (j := b.toInt.toNat) rfl (by omega) w169e
                refine aw_step (f1 := (94, [some (.ref 65), some (.int b), some (.int k), some (.int v), some (.int x156)], [(.ref 65)])) (w1 := w169) rfl rfl ?_
                refine s_gr 68 J170 97 rfl rfl rfl rfl rfl rfl ?_
                refine aw_step (f1 := (98, [some (.ref 65), some (.int b), some (.int k), some (.int v), some (.int x156)], [(.int b), (.ref 68)])) (w1 := w169) rfl rfl ?_
                refine aw_step (f1 := (99, [some (.ref 65), some (.int b), some (.int k), some (.int v), some (.int x156)], [(.int k), (.int b), (.ref 68)])) (w1 := w169) rfl rfl ?_
                refine s_i (pc1 := 100) (ls1 := [some (.ref 65), some (.int b), some (.int k), some (.int v), some (.int x156)]) (st1 := [(.int k), (.int b), (.ref 68)]) rfl rfl fun x171 e172 => ?_
                have e172t : x171.toInt = 1 := by rw [e172]; rfl
                refine s_ic 107 103 rfl rfl rfl (fun (h173 : ¬ k.toInt = x171.toInt) => ?_) (fun (h173 : ¬ (¬ k.toInt = x171.toInt)) => ?_)
                · --
                  refine aw_step (f1 := (108, [some (.ref 65), some (.int b), some (.int k), some (.int v), some (.int x156)], [(.ref 65), (.int b), (.ref 68)])) (w1 := w169) rfl rfl ?_
                  refine s_gr 68 J170 111 rfl rfl rfl rfl rfl rfl ?_
                  refine aw_step (f1 := (112, [some (.ref 65), some (.int b), some (.int k), some (.int v), some (.int x156)], [(.int b), (.ref 68), (.int b), (.ref 68)])) (w1 := w169) rfl rfl ?_
                  refine s_ia J170 113 rfl rfl rfl rfl (by omega) (by omega) fun x174 x174a x174b x174f => ?_
                  have x174v : x174.toInt = rI w 68 b.toInt.toNat := by rw [← rI_of x174f, w169f.1.rIe (by decide)]
                  refine s_is J170 114 rfl rfl rfl rfl (by omega) (by omega) (by omega) (by omega) fun w175 J176 w175e => ?_
                  have w175f := rI_st J170.1 (p := 68) (j := b.toInt.toNat) rfl (by omega) w175e
                  refine aw_step (f1 := (116, [some (.ref 65), some (.int b), some (.int k), some (.int v), some (.int x156)], [(.int x156)])) (w1 := w175) rfl rfl ?_
                  refine aw_ret (v := some (.int x156)) rfl rfl ?_
                  have v0 : rI w 67 b.toInt.toNat = V (8 + 4 * b.toInt.toNat + 0) := R.ra (i := b.toInt.toNat) (c := 0) (by omega) (by decide)
                  have v1 : rI w 68 b.toInt.toNat = V (8 + 4 * b.toInt.toNat + 1) := R.ra (i := b.toInt.toNat) (c := 1) (by omega) (by decide)
                  have R1 := R.rowa (c := 0) (i := b.toInt.toNat) (by decide) (by omega) w169f
                  have R2 := R1.rowa (c := 1) (i := b.toInt.toNat) (by decide) (by omega) w175f
                  rw [upv_id (k := 8 + 4 * b.toInt.toNat + 1) (by rw [upv_n (by omega)]; omega)] at R2
                  exact ⟨J176.1, ((w169f.1.sub (by decide)).trans (w175f.1.sub (by decide))), by rw [w175f.1.fIe (by decide), w169f.1.fIe (by decide)], x156, rfl, _, R2, Or.inr (Or.inr (Or.inl ⟨by omega, ⟨by omega, by omega⟩, ⟨by omega, by omega, by omega⟩, rfl⟩))⟩
                · --
                  refine aw_step (f1 := (104, [some (.ref 65), some (.int b), some (.int k), some (.int v), some (.int x156)], [(.int v), (.int b), (.ref 68)])) (w1 := w169) rfl rfl ?_
                  refine aw_step (f1 := (113, [some (.ref 65), some (.int b), some (.int k), some (.int v), some (.int x156)], [(.int v), (.int b), (.ref 68)])) (w1 := w169) rfl rfl ?_
                  refine s_is J170 114 rfl rfl rfl rfl (by omega) (by omega) (by omega) (by omega) fun w177 J178 w177e => ?_
                  have w177f := rI_st J170.1 (p := 68) (j := b.toInt.toNat) rfl (by omega) w177e
                  refine aw_step (f1 := (116, [some (.ref 65), some (.int b), some (.int k), some (.int v), some (.int x156)], [(.int x156)])) (w1 := w177) rfl rfl ?_
                  refine aw_ret (v := some (.int x156)) rfl rfl ?_
                  exfalso; omega
          · --
            refine s_i (pc1 := 51) (ls1 := [some (.ref 65), some (.int b), some (.int k), some (.int v), none]) (st1 := []) rfl rfl fun x179 e180 => ?_
            have e180t : x179.toInt = -2 := by rw [e180]; rfl
            refine aw_ret (v := some (.int x179)) rfl rfl ?_
            exact ⟨J.1, only.rf, rfl, x179, rfl, _, R, by first | exact Or.inl ⟨by omega, by omega, rfl⟩ | exact Or.inr (Or.inl ⟨by omega, ⟨by omega, by omega⟩, by omega, by omega, rfl⟩)⟩
        · --
          refine s_l (pc1 := 37) (ls1 := [some (.ref 65), some (.int b), some (.int k), some (.int v), none]) (st1 := [(.long y125), (.long y13)]) rfl rfl fun y181 e182 => ?_
          have e182t : y181.toInt = 50 := by rw [e182]; rfl
          refine aw_step (f1 := (43, [some (.ref 65), some (.int b), some (.int k), some (.int v), none], [(.long y181), (.long y125), (.long y13)])) (w1 := w) rfl rfl ?_
          refine s_cs (z := 108) (as := [(.long y13), (.long y125), (.long y181)]) (st1 := []) 46 rfl rfl rfl rfl rfl rfl (Nat.le_of_ble_eq_true rfl) (Nat.le_of_ble_eq_true rfl) (Nat.le_of_ble_eq_true rfl) (q_in2 y13 y125 y181) ?_
          rintro _ _ ⟨rfl, x183, rfl, x183t⟩
          refine ⟨rfl, ?_⟩
          show aw none _ 128 _ (46, [some (.ref 65), some (.int b), some (.int k), some (.int v), none], [(.int x183)]) w
          refine s_if 52 49 rfl rfl rfl (fun (h184 : ¬ x183.toInt = 0) => ?_) (fun (h184 : ¬ (¬ x183.toInt = 0)) => ?_)
          · --
            refine aw_step (f1 := (53, [some (.ref 65), some (.int b), some (.int k), some (.int v), none], [(.int k)])) (w1 := w) rfl rfl ?_
            refine s_if 65 56 rfl rfl rfl (fun (h185 : ¬ k.toInt = 0) => ?_) (fun (h185 : ¬ (¬ k.toInt = 0)) => ?_)
            · --
              refine aw_step (f1 := (66, [some (.ref 65), some (.int b), some (.int k), some (.int v), none], [(.ref 65)])) (w1 := w) rfl rfl ?_
              refine s_gr 68 J 69 rfl rfl rfl rfl rfl rfl ?_
              refine aw_step (f1 := (70, [some (.ref 65), some (.int b), some (.int k), some (.int v), none], [(.int b), (.ref 68)])) (w1 := w) rfl rfl ?_
              refine s_ia J 71 rfl rfl rfl rfl (by omega) (by omega) fun x186 x186a x186b x186f => ?_
              have x186v : x186.toInt = rI w 68 b.toInt.toNat := by rw [← rI_of x186f]
              refine aw_step (f1 := (73, [some (.ref 65), some (.int b), some (.int k), some (.int v), some (.int x186)], [])) (w1 := w) rfl rfl ?_
              refine aw_step (f1 := (74, [some (.ref 65), some (.int b), some (.int k), some (.int v), some (.int x186)], [(.ref 65)])) (w1 := w) rfl rfl ?_
              refine s_gr 67 J 77 rfl rfl rfl rfl rfl rfl ?_
              refine aw_step (f1 := (78, [some (.ref 65), some (.int b), some (.int k), some (.int v), some (.int x186)], [(.int b), (.ref 67)])) (w1 := w) rfl rfl ?_
              refine aw_step (f1 := (79, [some (.ref 65), some (.int b), some (.int k), some (.int v), some (.int x186)], [(.int k), (.int b), (.ref 67)])) (w1 := w) rfl rfl ?_
              refine s_if 86 82 rfl rfl rfl (fun (h187 : ¬ k.toInt = 0) => ?_) (fun (h187 : ¬ (¬ k.toInt = 0)) => ?_)
              · --
                refine aw_step (f1 := (87, [some (.ref 65), some (.int b), some (.int k), some (.int v), some (.int x186)], [(.ref 65), (.int b), (.ref 67)])) (w1 := w) rfl rfl ?_
                refine s_gr 67 J 90 rfl rfl rfl rfl rfl rfl ?_
                refine aw_step (f1 := (91, [some (.ref 65), some (.int b), some (.int k), some (.int v), some (.int x186)], [(.int b), (.ref 67), (.int b), (.ref 67)])) (w1 := w) rfl rfl ?_
                refine s_ia J 92 rfl rfl rfl rfl (by omega) (by omega) fun x188 x188a x188b x188f => ?_
                have x188v : x188.toInt = rI w 67 b.toInt.toNat := by rw [← rI_of x188f]
                refine s_is J 93 rfl rfl rfl rfl (by omega) (by omega) (by omega) (by omega) fun w189 J190 w189e => ?_
                have w189f := rI_st J.1 (p := 67) (j := b.toInt.toNat) rfl (by omega) w189e
                refine aw_step (f1 := (94, [some (.ref 65), some (.int b), some (.int k), some (.int v), some (.int x186)], [(.ref 65)])) (w1 := w189) rfl rfl ?_
                refine s_gr 68 J190 97 rfl rfl rfl rfl rfl rfl ?_
                refine aw_step (f1 := (98, [some (.ref 65), some (.int b), some (.int k), some (.int v), some (.int x186)], [(.int b), (.ref 68)])) (w1 := w189) rfl rfl ?_
                refine aw_step (f1 := (99, [some (.ref 65), some (.int b), some (.int k), some (.int v), some (.int x186)], [(.int k), (.int b), (.ref 68)])) (w1 := w189) rfl rfl ?_
                refine s_i (pc1 := 100) (ls1 := [some (.ref 65), some (.int b), some (.int k), some (.int v), some (.int x186)]) (st1 := [(.int k), (.int b), (.ref 68)]) rfl rfl fun x191 e192 => ?_
                have e192t : x191.toInt = 1 := by rw [e192]; rfl
                refine s_ic 107 103 rfl rfl rfl (fun (h193 : ¬ k.toInt = x191.toInt) => ?_) (fun (h193 : ¬ (¬ k.toInt = x191.toInt)) => ?_)
                · --
                  refine aw_step (f1 := (108, [some (.ref 65), some (.int b), some (.int k), some (.int v), some (.int x186)], [(.ref 65), (.int b), (.ref 68)])) (w1 := w189) rfl rfl ?_
                  refine s_gr 68 J190 111 rfl rfl rfl rfl rfl rfl ?_
                  refine aw_step (f1 := (112, [some (.ref 65), some (.int b), some (.int k), some (.int v), some (.int x186)], [(.int b), (.ref 68), (.int b), (.ref 68)])) (w1 := w189) rfl rfl ?_
                  refine s_ia J190 113 rfl rfl rfl rfl (by omega) (by omega) fun x194 x194a x194b x194f => ?_
                  have x194v : x194.toInt = rI w 68 b.toInt.toNat := by rw [← rI_of x194f, w189f.1.rIe (by decide)]
                  refine s_is J190 114 rfl rfl rfl rfl (by omega) (by omega) (by omega) (by omega) fun w195 J196 w195e => ?_
                  have w195f := rI_st J190.1 (p := 68) (j := b.toInt.toNat) rfl (by omega) w195e
                  refine aw_step (f1 := (116, [some (.ref 65), some (.int b), some (.int k), some (.int v), some (.int x186)], [(.int x186)])) (w1 := w195) rfl rfl ?_
                  refine aw_ret (v := some (.int x186)) rfl rfl ?_
                  exfalso; omega
                · --
                  refine aw_step (f1 := (104, [some (.ref 65), some (.int b), some (.int k), some (.int v), some (.int x186)], [(.int v), (.int b), (.ref 68)])) (w1 := w189) rfl rfl ?_
                  refine aw_step (f1 := (113, [some (.ref 65), some (.int b), some (.int k), some (.int v), some (.int x186)], [(.int v), (.int b), (.ref 68)])) (w1 := w189) rfl rfl ?_
                  refine s_is J190 114 rfl rfl rfl rfl (by omega) (by omega) (by omega) (by omega) fun w197 J198 w197e => ?_
                  have w197f := rI_st J190.1 (p := 68) (j := b.toInt.toNat) rfl (by omega) w197e
                  refine aw_step (f1 := (116, [some (.ref 65), some (.int b), some (.int k), some (.int v), some (.int x186)], [(.int x186)])) (w1 := w197) rfl rfl ?_
                  refine aw_ret (v := some (.int x186)) rfl rfl ?_
                  have v0 : rI w 67 b.toInt.toNat = V (8 + 4 * b.toInt.toNat + 0) := R.ra (i := b.toInt.toNat) (c := 0) (by omega) (by decide)
                  have v1 : rI w 68 b.toInt.toNat = V (8 + 4 * b.toInt.toNat + 1) := R.ra (i := b.toInt.toNat) (c := 1) (by omega) (by decide)
                  have R1 := R.rowa (c := 0) (i := b.toInt.toNat) (by decide) (by omega) w189f
                  have R2 := R1.rowa (c := 1) (i := b.toInt.toNat) (by decide) (by omega) w197f
                  rw [upv_id (V := V) (by omega)] at R2
                  exact ⟨J198.1, ((w189f.1.sub (by decide)).trans (w197f.1.sub (by decide))), by rw [w197f.1.fIe (by decide), w189f.1.fIe (by decide)], x186, rfl, _, R2, Or.inr (Or.inr (Or.inr (⟨by omega, ⟨by omega, by omega⟩, ⟨by omega, by omega, by omega⟩, rfl⟩)))⟩
              · --
                refine aw_step (f1 := (83, [some (.ref 65), some (.int b), some (.int k), some (.int v), some (.int x186)], [(.int v), (.int b), (.ref 67)])) (w1 := w) rfl rfl ?_
                refine aw_step (f1 := (92, [some (.ref 65), some (.int b), some (.int k), some (.int v), some (.int x186)], [(.int v), (.int b), (.ref 67)])) (w1 := w) rfl rfl ?_
                refine s_is J 93 rfl rfl rfl rfl (by omega) (by omega) (by omega) (by omega) fun w199 J200 w199e => ?_
                have w199f := rI_st J.1 (p := 67) (j := b.toInt.toNat) rfl (by omega) w199e
                refine aw_step (f1 := (94, [some (.ref 65), some (.int b), some (.int k), some (.int v), some (.int x186)], [(.ref 65)])) (w1 := w199) rfl rfl ?_
                refine s_gr 68 J200 97 rfl rfl rfl rfl rfl rfl ?_
                refine aw_step (f1 := (98, [some (.ref 65), some (.int b), some (.int k), some (.int v), some (.int x186)], [(.int b), (.ref 68)])) (w1 := w199) rfl rfl ?_
                refine aw_step (f1 := (99, [some (.ref 65), some (.int b), some (.int k), some (.int v), some (.int x186)], [(.int k), (.int b), (.ref 68)])) (w1 := w199) rfl rfl ?_
                refine s_i (pc1 := 100) (ls1 := [some (.ref 65), some (.int b), some (.int k), some (.int v), some (.int x186)]) (st1 := [(.int k), (.int b), (.ref 68)]) rfl rfl fun x201 e202 => ?_
                have e202t : x201.toInt = 1 := by rw [e202]; rfl
                refine s_ic 107 103 rfl rfl rfl (fun (h203 : ¬ k.toInt = x201.toInt) => ?_) (fun (h203 : ¬ (¬ k.toInt = x201.toInt)) => ?_)
                · --
                  refine aw_step (f1 := (108, [some (.ref 65), some (.int b), some (.int k), some (.int v), some (.int x186)], [(.ref 65), (.int b), (.ref 68)])) (w1 := w199) rfl rfl ?_
                  refine s_gr 68 J200 111 rfl rfl rfl rfl rfl rfl ?_
                  refine aw_step (f1 := (112, [some (.ref 65), some (.int b), some (.int k), some (.int v), some (.int x186)], [(.int b), (.ref 68), (.int b), (.ref 68)])) (w1 := w199) rfl rfl ?_
                  refine s_ia J200 113 rfl rfl rfl rfl (by omega) (by omega) fun x204 x204a x204b x204f => ?_
                  have x204v : x204.toInt = rI w 68 b.toInt.toNat := by rw [← rI_of x204f, w199f.1.rIe (by decide)]
                  refine s_is J200 114 rfl rfl rfl rfl (by omega) (by omega) (by omega) (by omega) fun w205 J206 w205e => ?_
                  have w205f := rI_st J200.1 (p := 68) (j := b.toInt.toNat) rfl (by omega) w205e
                  refine aw_step (f1 := (116, [some (.ref 65), some (.int b), some (.int k), some (.int v), some (.int x186)], [(.int x186)])) (w1 := w205) rfl rfl ?_
                  refine aw_ret (v := some (.int x186)) rfl rfl ?_
                  have v0 : rI w 67 b.toInt.toNat = V (8 + 4 * b.toInt.toNat + 0) := R.ra (i := b.toInt.toNat) (c := 0) (by omega) (by decide)
                  have v1 : rI w 68 b.toInt.toNat = V (8 + 4 * b.toInt.toNat + 1) := R.ra (i := b.toInt.toNat) (c := 1) (by omega) (by decide)
                  have R1 := R.rowa (c := 0) (i := b.toInt.toNat) (by decide) (by omega) w199f
                  have R2 := R1.rowa (c := 1) (i := b.toInt.toNat) (by decide) (by omega) w205f
                  rw [upv_id (k := 8 + 4 * b.toInt.toNat + 1) (by rw [upv_n (by omega)]; omega)] at R2
                  exact ⟨J206.1, ((w199f.1.sub (by decide)).trans (w205f.1.sub (by decide))), by rw [w205f.1.fIe (by decide), w199f.1.fIe (by decide)], x186, rfl, _, R2, Or.inr (Or.inr (Or.inl ⟨by omega, ⟨by omega, by omega⟩, ⟨by omega, by omega, by omega⟩, rfl⟩))⟩
                · --
                  refine aw_step (f1 := (104, [some (.ref 65), some (.int b), some (.int k), some (.int v), some (.int x186)], [(.int v), (.int b), (.ref 68)])) (w1 := w199) rfl rfl ?_
                  refine aw_step (f1 := (113, [some (.ref 65), some (.int b), some (.int k), some (.int v), some (.int x186)], [(.int v), (.int b), (.ref 68)])) (w1 := w199) rfl rfl ?_
                  refine s_is J200 114 rfl rfl rfl rfl (by omega) (by omega) (by omega) (by omega) fun w207 J208 w207e => ?_
                  have w207f := rI_st J200.1 (p := 68) (j := b.toInt.toNat) rfl (by omega) w207e
                  refine aw_step (f1 := (116, [some (.ref 65), some (.int b), some (.int k), some (.int v), some (.int x186)], [(.int x186)])) (w1 := w207) rfl rfl ?_
                  refine aw_ret (v := some (.int x186)) rfl rfl ?_
                  exfalso; omega
            · --
              refine aw_step (f1 := (57, [some (.ref 65), some (.int b), some (.int k), some (.int v), none], [(.ref 65)])) (w1 := w) rfl rfl ?_
              refine s_gr 67 J 60 rfl rfl rfl rfl rfl rfl ?_
              refine aw_step (f1 := (61, [some (.ref 65), some (.int b), some (.int k), some (.int v), none], [(.int b), (.ref 67)])) (w1 := w) rfl rfl ?_
              refine s_ia J 62 rfl rfl rfl rfl (by omega) (by omega) fun x209 x209a x209b x209f => ?_
              have x209v : x209.toInt = rI w 67 b.toInt.toNat := by rw [← rI_of x209f]
              refine aw_step (f1 := (71, [some (.ref 65), some (.int b), some (.int k), some (.int v), none], [(.int x209)])) (w1 := w) rfl rfl ?_
              refine aw_step (f1 := (73, [some (.ref 65), some (.int b), some (.int k), some (.int v), some (.int x209)], [])) (w1 := w) rfl rfl ?_
              refine aw_step (f1 := (74, [some (.ref 65), some (.int b), some (.int k), some (.int v), some (.int x209)], [(.ref 65)])) (w1 := w) rfl rfl ?_
              refine s_gr 67 J 77 rfl rfl rfl rfl rfl rfl ?_
              refine aw_step (f1 := (78, [some (.ref 65), some (.int b), some (.int k), some (.int v), some (.int x209)], [(.int b), (.ref 67)])) (w1 := w) rfl rfl ?_
              refine aw_step (f1 := (79, [some (.ref 65), some (.int b), some (.int k), some (.int v), some (.int x209)], [(.int k), (.int b), (.ref 67)])) (w1 := w) rfl rfl ?_
              refine s_if 86 82 rfl rfl rfl (fun (h210 : ¬ k.toInt = 0) => ?_) (fun (h210 : ¬ (¬ k.toInt = 0)) => ?_)
              · --
                refine aw_step (f1 := (87, [some (.ref 65), some (.int b), some (.int k), some (.int v), some (.int x209)], [(.ref 65), (.int b), (.ref 67)])) (w1 := w) rfl rfl ?_
                refine s_gr 67 J 90 rfl rfl rfl rfl rfl rfl ?_
                refine aw_step (f1 := (91, [some (.ref 65), some (.int b), some (.int k), some (.int v), some (.int x209)], [(.int b), (.ref 67), (.int b), (.ref 67)])) (w1 := w) rfl rfl ?_
                refine s_ia J 92 rfl rfl rfl rfl (by omega) (by omega) fun x211 x211a x211b x211f => ?_
                have x211v : x211.toInt = rI w 67 b.toInt.toNat := by rw [← rI_of x211f]
                refine s_is J 93 rfl rfl rfl rfl (by omega) (by omega) (by omega) (by omega) fun w212 J213 w212e => ?_
                have w212f := rI_st J.1 (p := 67) (j := b.toInt.toNat) rfl (by omega) w212e
                refine aw_step (f1 := (94, [some (.ref 65), some (.int b), some (.int k), some (.int v), some (.int x209)], [(.ref 65)])) (w1 := w212) rfl rfl ?_
                refine s_gr 68 J213 97 rfl rfl rfl rfl rfl rfl ?_
                refine aw_step (f1 := (98, [some (.ref 65), some (.int b), some (.int k), some (.int v), some (.int x209)], [(.int b), (.ref 68)])) (w1 := w212) rfl rfl ?_
                refine aw_step (f1 := (99, [some (.ref 65), some (.int b), some (.int k), some (.int v), some (.int x209)], [(.int k), (.int b), (.ref 68)])) (w1 := w212) rfl rfl ?_
                refine s_i (pc1 := 100) (ls1 := [some (.ref 65), some (.int b), some (.int k), some (.int v), some (.int x209)]) (st1 := [(.int k), (.int b), (.ref 68)]) rfl rfl fun x214 e215 => ?_
                have e215t : x214.toInt = 1 := by rw [e215]; rfl
                refine s_ic 107 103 rfl rfl rfl (fun (h216 : ¬ k.toInt = x214.toInt) => ?_) (fun (h216 : ¬ (¬ k.toInt = x214.toInt)) => ?_)
                · --
                  refine aw_step (f1 := (108, [some (.ref 65), some (.int b), some (.int k), some (.int v), some (.int x209)], [(.ref 65), (.int b), (.ref 68)])) (w1 := w212) rfl rfl ?_
                  refine s_gr 68 J213 111 rfl rfl rfl rfl rfl rfl ?_
                  refine aw_step (f1 := (112, [some (.ref 65), some (.int b), some (.int k), some (.int v), some (.int x209)], [(.int b), (.ref 68), (.int b), (.ref 68)])) (w1 := w212) rfl rfl ?_
                  refine s_ia J213 113 rfl rfl rfl rfl (by omega) (by omega) fun x217 x217a x217b x217f => ?_
                  have x217v : x217.toInt = rI w 68 b.toInt.toNat := by rw [← rI_of x217f, w212f.1.rIe (by decide)]
                  refine s_is J213 114 rfl rfl rfl rfl (by omega) (by omega) (by omega) (by omega) fun w218 J219 w218e => ?_
                  have w218f := rI_st J213.1 (p := 68) (j := b.toInt.toNat) rfl (by omega) w218e
                  refine aw_step (f1 := (116, [some (.ref 65), some (.int b), some (.int k), some (.int v), some (.int x209)], [(.int x209)])) (w1 := w218) rfl rfl ?_
                  refine aw_ret (v := some (.int x209)) rfl rfl ?_
                  exfalso; omega
                · --
                  refine aw_step (f1 := (104, [some (.ref 65), some (.int b), some (.int k), some (.int v), some (.int x209)], [(.int v), (.int b), (.ref 68)])) (w1 := w212) rfl rfl ?_
                  refine aw_step (f1 := (113, [some (.ref 65), some (.int b), some (.int k), some (.int v), some (.int x209)], [(.int v), (.int b), (.ref 68)])) (w1 := w212) rfl rfl ?_
                  refine s_is J213 114 rfl rfl rfl rfl (by omega) (by omega) (by omega) (by omega) fun w220 J221 w220e => ?_
                  have w220f := rI_st J213.1 (p := 68) (j := b.toInt.toNat) rfl (by omega) w220e
                  refine aw_step (f1 := (116, [some (.ref 65), some (.int b), some (.int k), some (.int v), some (.int x209)], [(.int x209)])) (w1 := w220) rfl rfl ?_
                  refine aw_ret (v := some (.int x209)) rfl rfl ?_
                  have v0 : rI w 67 b.toInt.toNat = V (8 + 4 * b.toInt.toNat + 0) := R.ra (i := b.toInt.toNat) (c := 0) (by omega) (by decide)
                  have v1 : rI w 68 b.toInt.toNat = V (8 + 4 * b.toInt.toNat + 1) := R.ra (i := b.toInt.toNat) (c := 1) (by omega) (by decide)
                  have R1 := R.rowa (c := 0) (i := b.toInt.toNat) (by decide) (by omega) w212f
                  have R2 := R1.rowa (c := 1) (i := b.toInt.toNat) (by decide) (by omega) w220f
                  rw [upv_id (V := V) (by omega)] at R2
                  exact ⟨J221.1, ((w212f.1.sub (by decide)).trans (w220f.1.sub (by decide))), by rw [w220f.1.fIe (by decide), w212f.1.fIe (by decide)], x209, rfl, _, R2, Or.inr (Or.inr (Or.inr (⟨by omega, ⟨by omega, by omega⟩, ⟨by omega, by omega, by omega⟩, rfl⟩)))⟩
              · --
                refine aw_step (f1 := (83, [some (.ref 65), some (.int b), some (.int k), some (.int v), some (.int x209)], [(.int v), (.int b), (.ref 67)])) (w1 := w) rfl rfl ?_
                refine aw_step (f1 := (92, [some (.ref 65), some (.int b), some (.int k), some (.int v), some (.int x209)], [(.int v), (.int b), (.ref 67)])) (w1 := w) rfl rfl ?_
                refine s_is J 93 rfl rfl rfl rfl (by omega) (by omega) (by omega) (by omega) fun w222 J223 w222e => ?_
                have w222f := rI_st J.1 (p := 67) (j := b.toInt.toNat) rfl (by omega) w222e
                refine aw_step (f1 := (94, [some (.ref 65), some (.int b), some (.int k), some (.int v), some (.int x209)], [(.ref 65)])) (w1 := w222) rfl rfl ?_
                refine s_gr 68 J223 97 rfl rfl rfl rfl rfl rfl ?_
                refine aw_step (f1 := (98, [some (.ref 65), some (.int b), some (.int k), some (.int v), some (.int x209)], [(.int b), (.ref 68)])) (w1 := w222) rfl rfl ?_
                refine aw_step (f1 := (99, [some (.ref 65), some (.int b), some (.int k), some (.int v), some (.int x209)], [(.int k), (.int b), (.ref 68)])) (w1 := w222) rfl rfl ?_
                refine s_i (pc1 := 100) (ls1 := [some (.ref 65), some (.int b), some (.int k), some (.int v), some (.int x209)]) (st1 := [(.int k), (.int b), (.ref 68)]) rfl rfl fun x224 e225 => ?_
                have e225t : x224.toInt = 1 := by rw [e225]; rfl
                refine s_ic 107 103 rfl rfl rfl (fun (h226 : ¬ k.toInt = x224.toInt) => ?_) (fun (h226 : ¬ (¬ k.toInt = x224.toInt)) => ?_)
                · --
                  refine aw_step (f1 := (108, [some (.ref 65), some (.int b), some (.int k), some (.int v), some (.int x209)], [(.ref 65), (.int b), (.ref 68)])) (w1 := w222) rfl rfl ?_
                  refine s_gr 68 J223 111 rfl rfl rfl rfl rfl rfl ?_
                  refine aw_step (f1 := (112, [some (.ref 65), some (.int b), some (.int k), some (.int v), some (.int x209)], [(.int b), (.ref 68), (.int b), (.ref 68)])) (w1 := w222) rfl rfl ?_
                  refine s_ia J223 113 rfl rfl rfl rfl (by omega) (by omega) fun x227 x227a x227b x227f => ?_
                  have x227v : x227.toInt = rI w 68 b.toInt.toNat := by rw [← rI_of x227f, w222f.1.rIe (by decide)]
                  refine s_is J223 114 rfl rfl rfl rfl (by omega) (by omega) (by omega) (by omega) fun w228 J229 w228e => ?_
                  have w228f := rI_st J223.1 (p := 68) (j := b.toInt.toNat) rfl (by omega) w228e
                  refine aw_step (f1 := (116, [some (.ref 65), some (.int b), some (.int k), some (.int v), some (.int x209)], [(.int x209)])) (w1 := w228) rfl rfl ?_
                  refine aw_ret (v := some (.int x209)) rfl rfl ?_
                  have v0 : rI w 67 b.toInt.toNat = V (8 + 4 * b.toInt.toNat + 0) := R.ra (i := b.toInt.toNat) (c := 0) (by omega) (by decide)
                  have v1 : rI w 68 b.toInt.toNat = V (8 + 4 * b.toInt.toNat + 1) := R.ra (i := b.toInt.toNat) (c := 1) (by omega) (by decide)
                  have R1 := R.rowa (c := 0) (i := b.toInt.toNat) (by decide) (by omega) w222f
                  have R2 := R1.rowa (c := 1) (i := b.toInt.toNat) (by decide) (by omega) w228f
                  rw [upv_id (k := 8 + 4 * b.toInt.toNat + 1) (by rw [upv_n (by omega)]; omega)] at R2
                  exact ⟨J229.1, ((w222f.1.sub (by decide)).trans (w228f.1.sub (by decide))), by rw [w228f.1.fIe (by decide), w222f.1.fIe (by decide)], x209, rfl, _, R2, Or.inr (Or.inr (Or.inl ⟨by omega, ⟨by omega, by omega⟩, ⟨by omega, by omega, by omega⟩, rfl⟩))⟩
                · --
                  refine aw_step (f1 := (104, [some (.ref 65), some (.int b), some (.int k), some (.int v), some (.int x209)], [(.int v), (.int b), (.ref 68)])) (w1 := w222) rfl rfl ?_
                  refine aw_step (f1 := (113, [some (.ref 65), some (.int b), some (.int k), some (.int v), some (.int x209)], [(.int v), (.int b), (.ref 68)])) (w1 := w222) rfl rfl ?_
                  refine s_is J223 114 rfl rfl rfl rfl (by omega) (by omega) (by omega) (by omega) fun w230 J231 w230e => ?_
                  have w230f := rI_st J223.1 (p := 68) (j := b.toInt.toNat) rfl (by omega) w230e
                  refine aw_step (f1 := (116, [some (.ref 65), some (.int b), some (.int k), some (.int v), some (.int x209)], [(.int x209)])) (w1 := w230) rfl rfl ?_
                  refine aw_ret (v := some (.int x209)) rfl rfl ?_
                  exfalso; omega
          · --
            refine s_i (pc1 := 51) (ls1 := [some (.ref 65), some (.int b), some (.int k), some (.int v), none]) (st1 := []) rfl rfl fun x232 e233 => ?_
            have e233t : x232.toInt = -2 := by rw [e233]; rfl
            refine aw_ret (v := some (.int x232)) rfl rfl ?_
            exact ⟨J.1, only.rf, rfl, x232, rfl, _, R, by first | exact Or.inl ⟨by omega, by omega, rfl⟩ | exact Or.inr (Or.inl ⟨by omega, ⟨by omega, by omega⟩, by omega, by omega, rfl⟩)⟩
  · --
    refine s_i (pc1 := 8) (ls1 := [some (.ref 65), some (.int b), some (.int k), some (.int v), none]) (st1 := []) rfl rfl fun x234 e235 => ?_
    have e235t : x234.toInt = -1 := by rw [e235]; rfl
    refine aw_ret (v := some (.int x234)) rfl rfl ?_
    exact ⟨J.1, only.rf, rfl, x234, rfl, _, R, by first | exact Or.inl ⟨by omega, by omega, rfl⟩ | exact Or.inr (Or.inl ⟨by omega, ⟨by omega, by omega⟩, by omega, by omega, rfl⟩)⟩
theorem e_minutes {d : Nat} {w : am_W} {V : Nat → Int} (R : RCs w 3 V) (k v : Int32) (I : ab_inv ab_TT ab_sets w) : aw none (d + 3) 69 (QC w (fun z V1 => mnP V k.toInt v.toInt z V1)) (0, am_entry 69 [.ref 0, .int k, .int v], []) w := by
  have J : ab_J ab_TT ab_sets ab_WR2 w w := ⟨I, ab_fr.rf⟩
  have sz := szC_in I
  have hs := R.sz
  have r2 := R.f2
  have r3 := R.f3
  have r4 := R.f4
  have r6 := R.f6
  show aw none (d + 3) 69 _ (0, [some (.ref 0), some (.int k), some (.int v)], []) w
  refine aw_step (f1 := (1, [some (.ref 0), some (.int k), some (.int v)], [(.int k)])) (w1 := w) rfl rfl ?_
  refine s_i (pc1 := 2) (ls1 := [some (.ref 0), some (.int k), some (.int v)]) (st1 := [(.int k)]) rfl rfl fun x1 e2 => ?_
  have e2t : x1.toInt = 0 := by rw [e2]; rfl
  refine s_i (pc1 := 3) (ls1 := [some (.ref 0), some (.int k), some (.int v)]) (st1 := [(.int x1), (.int k)]) rfl rfl fun x3 e4 => ?_
  have e4t : x3.toInt = 1 := by rw [e4]; rfl
  refine s_cs (z := 102) (as := [(.int k), (.int x1), (.int x3)]) (st1 := []) 6 rfl rfl rfl rfl rfl rfl (Nat.le_of_ble_eq_true rfl) (Nat.le_of_ble_eq_true rfl) (Nat.le_of_ble_eq_true rfl) (q_within k x1 x3) ?_
  rintro _ _ ⟨rfl, x5, rfl, x5t⟩
  refine ⟨rfl, ?_⟩
  show aw none _ 69 _ (6, [some (.ref 0), some (.int k), some (.int v)], [(.int x5)]) w
  refine s_if 19 9 rfl rfl rfl (fun (h6 : x5.toInt = 0) => ?_) (fun (h6 : ¬ (x5.toInt = 0)) => ?_)
  · --
    refine s_i (pc1 := 21) (ls1 := [some (.ref 0), some (.int k), some (.int v)]) (st1 := []) rfl rfl fun x7 e8 => ?_
    have e8t : x7.toInt = -2 := by rw [e8]; rfl
    refine aw_ret (v := some (.int x7)) rfl rfl ?_
    exact ⟨J.1, only.rf, x7, rfl, _, R, by exact Or.inl ⟨by omega, by omega, rfl⟩⟩
  · --
    refine aw_step (f1 := (10, [some (.ref 0), some (.int k), some (.int v)], [(.int v)])) (w1 := w) rfl rfl ?_
    refine s_i (pc1 := 11) (ls1 := [some (.ref 0), some (.int k), some (.int v)]) (st1 := [(.int v)]) rfl rfl fun x9 e10 => ?_
    have e10t : x9.toInt = 1 := by rw [e10]; rfl
    refine s_i (pc1 := 13) (ls1 := [some (.ref 0), some (.int k), some (.int v)]) (st1 := [(.int x9), (.int v)]) rfl rfl fun x11 e12 => ?_
    have e12t : x11.toInt = 9 := by rw [e12]; rfl
    refine s_cs (z := 102) (as := [(.int v), (.int x9), (.int x11)]) (st1 := []) 16 rfl rfl rfl rfl rfl rfl (Nat.le_of_ble_eq_true rfl) (Nat.le_of_ble_eq_true rfl) (Nat.le_of_ble_eq_true rfl) (q_within v x9 x11) ?_
    rintro _ _ ⟨rfl, x13, rfl, x13t⟩
    refine ⟨rfl, ?_⟩
    show aw none _ 69 _ (16, [some (.ref 0), some (.int k), some (.int v)], [(.int x13)]) w
    refine s_if 22 19 rfl rfl rfl (fun (h14 : ¬ x13.toInt = 0) => ?_) (fun (h14 : ¬ (¬ x13.toInt = 0)) => ?_)
    · --
      refine aw_step (f1 := (23, [some (.ref 0), some (.int k), some (.int v)], [(.ref 0)])) (w1 := w) rfl rfl ?_
      refine s_gr 3 J 26 rfl rfl rfl rfl rfl rfl ?_
      refine s_gr 9 J 29 rfl rfl rfl rfl rfl rfl ?_
      refine aw_step (f1 := (30, [some (.ref 0), some (.int k), some (.int v)], [(.int k), (.ref 9)])) (w1 := w) rfl rfl ?_
      refine aw_step (f1 := (31, [some (.ref 0), some (.int k), some (.int v)], [(.int v), (.int k), (.ref 9)])) (w1 := w) rfl rfl ?_
      refine s_cs (z := 99) (as := [(.ref 9), (.int k), (.int v)]) (st1 := []) 34 rfl rfl rfl rfl rfl rfl (Nat.le_of_ble_eq_true rfl) (Nat.le_of_ble_eq_true rfl) (Nat.le_of_ble_eq_true rfl) (q_put9 k v ⟨by omega, by omega⟩ ⟨by omega, by omega⟩ J.1) ?_
      rintro _ w16 ⟨x15, rfl, J17c, x15v, w16f⟩
      have J17 := J.trans J17c
      refine ⟨am_len2 J J17c, ?_⟩
      show aw none _ 69 _ (34, [some (.ref 0), some (.int k), some (.int v)], [(.int x15)]) w16
      refine aw_ret (v := some (.int x15)) rfl rfl ?_
      have k01 : k.toInt = 0 ∨ k.toInt = 1 := by omega
      have hv := R.rv (r := 6) (i := k.toInt.toNat) (by decide) (by decide) (by omega) (by show k.toInt.toNat < 2; omega)
      have hv : rI w 9 k.toInt.toNat = V (4 + k.toInt.toNat) := hv
      have R1 := R.row (r := 6) (i := k.toInt.toNat) (by decide) (by decide) (by omega) (by show k.toInt.toNat < 2; omega) w16f
      have R1 : RCs w16 3 (upv V (4 + k.toInt.toNat) v.toInt) := R1
      rcases k01 with k0 | k0
      · rw [k0] at hv R1
        exact ⟨J17.1, (w16f.1.sub (by decide)), x15, rfl, _, R1, Or.inr (Or.inl ⟨x15v.trans (by rw [k0]; exact hv), ⟨by omega, by omega, by omega⟩, rfl⟩)⟩
      · rw [k0] at hv R1
        exact ⟨J17.1, (w16f.1.sub (by decide)), x15, rfl, _, R1, Or.inr (Or.inr (⟨x15v.trans (by rw [k0]; exact hv), ⟨by omega, by omega, by omega⟩, rfl⟩))⟩
      --
    · --
      refine s_i (pc1 := 21) (ls1 := [some (.ref 0), some (.int k), some (.int v)]) (st1 := []) rfl rfl fun x18 e19 => ?_
      have e19t : x18.toInt = -2 := by rw [e19]; rfl
      refine aw_ret (v := some (.int x18)) rfl rfl ?_
      exact ⟨J.1, only.rf, x18, rfl, _, R, by exact Or.inl ⟨by omega, by omega, rfl⟩⟩
theorem f_minutes {d : Nat} {w : am_W} {V : Nat → Int} (R : RMs w V) (k v : Int32) (I : ab_inv ab_TT ab_sets w) : aw none (d + 3) 129 (QM w (fun z V1 => mnP V k.toInt v.toInt z V1)) (0, am_entry 129 [.ref 65, .int k, .int v], []) w := by
  have J : ab_J ab_TT ab_sets ab_WR2 w w := ⟨I, ab_fr.rf⟩
  have sz := szM_in I
  have hs := R.sz
  have r2 := R.f2
  have r3 := R.f3
  have r4 := R.f4
  have r5 := R.f5
  have r6 := R.f6
  have r7 := R.f7
  have hl : ∀ c : Int32, 0 ≤ c.toInt → c.toInt < szV V → rI w 66 c.toInt.toNat = V (40 + c.toInt.toNat) := fun c a b => R.rc (by omega)
  show aw none (d + 3) 129 _ (0, [some (.ref 65), some (.int k), some (.int v), none], []) w
  refine aw_step (f1 := (1, [some (.ref 65), some (.int k), some (.int v), none], [(.int k)])) (w1 := w) rfl rfl ?_
  refine s_l (pc1 := 2) (ls1 := [some (.ref 65), some (.int k), some (.int v), none]) (st1 := []) rfl rfl fun y1 e2 => ?_
  have e2t : y1.toInt = k.toInt := by rw [e2]; exact Int32.toInt_toInt64 k
  refine s_l (pc1 := 3) (ls1 := [some (.ref 65), some (.int k), some (.int v), none]) (st1 := [(.long y1)]) rfl rfl fun y3 e4 => ?_
  have e4t : y3.toInt = 0 := by rw [e4]; rfl
  refine s_l (pc1 := 4) (ls1 := [some (.ref 65), some (.int k), some (.int v), none]) (st1 := [(.long y3), (.long y1)]) rfl rfl fun y5 e6 => ?_
  have e6t : y5.toInt = 1 := by rw [e6]; rfl
  refine s_cs (z := 108) (as := [(.long y1), (.long y3), (.long y5)]) (st1 := []) 7 rfl rfl rfl rfl rfl rfl (Nat.le_of_ble_eq_true rfl) (Nat.le_of_ble_eq_true rfl) (Nat.le_of_ble_eq_true rfl) (q_in2 y1 y3 y5) ?_
  rintro _ _ ⟨rfl, x7, rfl, x7t⟩
  refine ⟨rfl, ?_⟩
  show aw none _ 129 _ (7, [some (.ref 65), some (.int k), some (.int v), none], [(.int x7)]) w
  refine s_if 22 10 rfl rfl rfl (fun (h8 : x7.toInt = 0) => ?_) (fun (h8 : ¬ (x7.toInt = 0)) => ?_)
  · --
    refine s_i (pc1 := 24) (ls1 := [some (.ref 65), some (.int k), some (.int v), none]) (st1 := []) rfl rfl fun x9 e10 => ?_
    have e10t : x9.toInt = -2 := by rw [e10]; rfl
    refine aw_ret (v := some (.int x9)) rfl rfl ?_
    exact ⟨J.1, only.rf, rfl, x9, rfl, _, R, by exact Or.inl ⟨by omega, by omega, rfl⟩⟩
  · --
    refine aw_step (f1 := (11, [some (.ref 65), some (.int k), some (.int v), none], [(.int v)])) (w1 := w) rfl rfl ?_
    refine s_l (pc1 := 12) (ls1 := [some (.ref 65), some (.int k), some (.int v), none]) (st1 := []) rfl rfl fun y11 e12 => ?_
    have e12t : y11.toInt = v.toInt := by rw [e12]; exact Int32.toInt_toInt64 v
    refine s_l (pc1 := 13) (ls1 := [some (.ref 65), some (.int k), some (.int v), none]) (st1 := [(.long y11)]) rfl rfl fun y13 e14 => ?_
    have e14t : y13.toInt = 1 := by rw [e14]; rfl
    refine s_l (pc1 := 16) (ls1 := [some (.ref 65), some (.int k), some (.int v), none]) (st1 := [(.long y13), (.long y11)]) rfl rfl fun y15 e16 => ?_
    have e16t : y15.toInt = 9 := by rw [e16]; rfl
    refine s_cs (z := 108) (as := [(.long y11), (.long y13), (.long y15)]) (st1 := []) 19 rfl rfl rfl rfl rfl rfl (Nat.le_of_ble_eq_true rfl) (Nat.le_of_ble_eq_true rfl) (Nat.le_of_ble_eq_true rfl) (q_in2 y11 y13 y15) ?_
    rintro _ _ ⟨rfl, x17, rfl, x17t⟩
    refine ⟨rfl, ?_⟩
    show aw none _ 129 _ (19, [some (.ref 65), some (.int k), some (.int v), none], [(.int x17)]) w
    refine s_if 25 22 rfl rfl rfl (fun (h18 : ¬ x17.toInt = 0) => ?_) (fun (h18 : ¬ (¬ x17.toInt = 0)) => ?_)
    · --
      refine aw_step (f1 := (26, [some (.ref 65), some (.int k), some (.int v), none], [(.int k)])) (w1 := w) rfl rfl ?_
      refine s_if 36 29 rfl rfl rfl (fun (h19 : ¬ k.toInt = 0) => ?_) (fun (h19 : ¬ (¬ k.toInt = 0)) => ?_)
      · --
        refine aw_step (f1 := (37, [some (.ref 65), some (.int k), some (.int v), none], [(.ref 65)])) (w1 := w) rfl rfl ?_
        refine s_gi J 40 rfl rfl rfl rfl rfl rfl fun x20 x20a x20b x20f => ?_
        have x20v : x20.toInt = fI w 65 8 := by rw [← fI_of x20f]
        refine aw_step (f1 := (41, [some (.ref 65), some (.int k), some (.int v), some (.int x20)], [])) (w1 := w) rfl rfl ?_
        refine aw_step (f1 := (42, [some (.ref 65), some (.int k), some (.int v), some (.int x20)], [(.ref 65)])) (w1 := w) rfl rfl ?_
        refine aw_step (f1 := (43, [some (.ref 65), some (.int k), some (.int v), some (.int x20)], [(.int k), (.ref 65)])) (w1 := w) rfl rfl ?_
        refine s_if 50 46 rfl rfl rfl (fun (h21 : ¬ k.toInt = 0) => ?_) (fun (h21 : ¬ (¬ k.toInt = 0)) => ?_)
        · --
          refine aw_step (f1 := (51, [some (.ref 65), some (.int k), some (.int v), some (.int x20)], [(.ref 65), (.ref 65)])) (w1 := w) rfl rfl ?_
          refine s_gi J 54 rfl rfl rfl rfl rfl rfl fun x22 x22a x22b x22f => ?_
          have x22v : x22.toInt = fI w 65 7 := by rw [← fI_of x22f]
          refine s_pi J 57 rfl rfl rfl rfl rfl rfl rfl (by omega) (by omega) fun w23 J24 w23e => ?_
          have w23f := fv_st J.1 (p := 65) (kf := 7) rfl (by decide) w23e
          refine aw_step (f1 := (58, [some (.ref 65), some (.int k), some (.int v), some (.int x20)], [(.ref 65)])) (w1 := w23) rfl rfl ?_
          refine aw_step (f1 := (59, [some (.ref 65), some (.int k), some (.int v), some (.int x20)], [(.int k), (.ref 65)])) (w1 := w23) rfl rfl ?_
          refine s_i (pc1 := 60) (ls1 := [some (.ref 65), some (.int k), some (.int v), some (.int x20)]) (st1 := [(.int k), (.ref 65)]) rfl rfl fun x25 e26 => ?_
          have e26t : x25.toInt = 1 := by rw [e26]; rfl
          refine s_ic 67 63 rfl rfl rfl (fun (h27 : ¬ k.toInt = x25.toInt) => ?_) (fun (h27 : ¬ (¬ k.toInt = x25.toInt)) => ?_)
          · --
            refine aw_step (f1 := (68, [some (.ref 65), some (.int k), some (.int v), some (.int x20)], [(.ref 65), (.ref 65)])) (w1 := w23) rfl rfl ?_
            refine s_gi J24 71 rfl rfl rfl rfl rfl rfl fun x28 x28a x28b x28f => ?_
            have x28v : x28.toInt = fI w 65 8 := by rw [← fI_of x28f, fI_eq (w23f.2.2 8 (by decide))]
            refine s_pi J24 74 rfl rfl rfl rfl rfl rfl rfl (by omega) (by omega) fun w29 J30 w29e => ?_
            have w29f := fv_st J24.1 (p := 65) (kf := 8) rfl (by decide) w29e
            refine aw_step (f1 := (75, [some (.ref 65), some (.int k), some (.int v), some (.int x20)], [(.int x20)])) (w1 := w29) rfl rfl ?_
            refine aw_ret (v := some (.int x20)) rfl rfl ?_
            exfalso; omega
          · --
            refine aw_step (f1 := (64, [some (.ref 65), some (.int k), some (.int v), some (.int x20)], [(.int v), (.ref 65)])) (w1 := w23) rfl rfl ?_
            refine aw_step (f1 := (71, [some (.ref 65), some (.int k), some (.int v), some (.int x20)], [(.int v), (.ref 65)])) (w1 := w23) rfl rfl ?_
            refine s_pi J24 74 rfl rfl rfl rfl rfl rfl rfl (by omega) (by omega) fun w31 J32 w31e => ?_
            have w31f := fv_st J24.1 (p := 65) (kf := 8) rfl (by decide) w31e
            refine aw_step (f1 := (75, [some (.ref 65), some (.int k), some (.int v), some (.int x20)], [(.int x20)])) (w1 := w31) rfl rfl ?_
            refine aw_ret (v := some (.int x20)) rfl rfl ?_
            have R1 := R.put (q := 4) (by decide) (by decide) w23f
            have R2 := R1.put (q := 5) (by decide) (by decide) w31f
            rw [upv_id (V := V) (by omega)] at R2
            exact ⟨J32.1, ((w23f.1.sub (by decide)).trans (w31f.1.sub (by decide))), by rw [fI_eq (w31f.2.2 16 (by decide)), fI_eq (w23f.2.2 16 (by decide))], x20, rfl, _, R2, Or.inr (Or.inr (⟨by omega, ⟨by omega, by omega, by omega⟩, rfl⟩))⟩
        · --
          refine aw_step (f1 := (47, [some (.ref 65), some (.int k), some (.int v), some (.int x20)], [(.int v), (.ref 65)])) (w1 := w) rfl rfl ?_
          refine aw_step (f1 := (54, [some (.ref 65), some (.int k), some (.int v), some (.int x20)], [(.int v), (.ref 65)])) (w1 := w) rfl rfl ?_
          refine s_pi J 57 rfl rfl rfl rfl rfl rfl rfl (by omega) (by omega) fun w33 J34 w33e => ?_
          have w33f := fv_st J.1 (p := 65) (kf := 7) rfl (by decide) w33e
          refine aw_step (f1 := (58, [some (.ref 65), some (.int k), some (.int v), some (.int x20)], [(.ref 65)])) (w1 := w33) rfl rfl ?_
          refine aw_step (f1 := (59, [some (.ref 65), some (.int k), some (.int v), some (.int x20)], [(.int k), (.ref 65)])) (w1 := w33) rfl rfl ?_
          refine s_i (pc1 := 60) (ls1 := [some (.ref 65), some (.int k), some (.int v), some (.int x20)]) (st1 := [(.int k), (.ref 65)]) rfl rfl fun x35 e36 => ?_
          have e36t : x35.toInt = 1 := by rw [e36]; rfl
          refine s_ic 67 63 rfl rfl rfl (fun (h37 : ¬ k.toInt = x35.toInt) => ?_) (fun (h37 : ¬ (¬ k.toInt = x35.toInt)) => ?_)
          · --
            refine aw_step (f1 := (68, [some (.ref 65), some (.int k), some (.int v), some (.int x20)], [(.ref 65), (.ref 65)])) (w1 := w33) rfl rfl ?_
            refine s_gi J34 71 rfl rfl rfl rfl rfl rfl fun x38 x38a x38b x38f => ?_
            have x38v : x38.toInt = fI w 65 8 := by rw [← fI_of x38f, fI_eq (w33f.2.2 8 (by decide))]
            refine s_pi J34 74 rfl rfl rfl rfl rfl rfl rfl (by omega) (by omega) fun w39 J40 w39e => ?_
            have w39f := fv_st J34.1 (p := 65) (kf := 8) rfl (by decide) w39e
            refine aw_step (f1 := (75, [some (.ref 65), some (.int k), some (.int v), some (.int x20)], [(.int x20)])) (w1 := w39) rfl rfl ?_
            refine aw_ret (v := some (.int x20)) rfl rfl ?_
            have R1 := R.put (q := 4) (by decide) (by decide) w33f
            have R2 := R1.put (q := 5) (by decide) (by decide) w39f
            rw [upv_id (k := 5) (by rw [upv_n (by decide)]; omega)] at R2
            exact ⟨J40.1, ((w33f.1.sub (by decide)).trans (w39f.1.sub (by decide))), by rw [fI_eq (w39f.2.2 16 (by decide)), fI_eq (w33f.2.2 16 (by decide))], x20, rfl, _, R2, Or.inr (Or.inl ⟨by omega, ⟨by omega, by omega, by omega⟩, rfl⟩)⟩
          · --
            refine aw_step (f1 := (64, [some (.ref 65), some (.int k), some (.int v), some (.int x20)], [(.int v), (.ref 65)])) (w1 := w33) rfl rfl ?_
            refine aw_step (f1 := (71, [some (.ref 65), some (.int k), some (.int v), some (.int x20)], [(.int v), (.ref 65)])) (w1 := w33) rfl rfl ?_
            refine s_pi J34 74 rfl rfl rfl rfl rfl rfl rfl (by omega) (by omega) fun w41 J42 w41e => ?_
            have w41f := fv_st J34.1 (p := 65) (kf := 8) rfl (by decide) w41e
            refine aw_step (f1 := (75, [some (.ref 65), some (.int k), some (.int v), some (.int x20)], [(.int x20)])) (w1 := w41) rfl rfl ?_
            refine aw_ret (v := some (.int x20)) rfl rfl ?_
            exfalso; omega
      · --
        refine aw_step (f1 := (30, [some (.ref 65), some (.int k), some (.int v), none], [(.ref 65)])) (w1 := w) rfl rfl ?_
        refine s_gi J 33 rfl rfl rfl rfl rfl rfl fun x43 x43a x43b x43f => ?_
        have x43v : x43.toInt = fI w 65 7 := by rw [← fI_of x43f]
        refine aw_step (f1 := (40, [some (.ref 65), some (.int k), some (.int v), none], [(.int x43)])) (w1 := w) rfl rfl ?_
        refine aw_step (f1 := (41, [some (.ref 65), some (.int k), some (.int v), some (.int x43)], [])) (w1 := w) rfl rfl ?_
        refine aw_step (f1 := (42, [some (.ref 65), some (.int k), some (.int v), some (.int x43)], [(.ref 65)])) (w1 := w) rfl rfl ?_
        refine aw_step (f1 := (43, [some (.ref 65), some (.int k), some (.int v), some (.int x43)], [(.int k), (.ref 65)])) (w1 := w) rfl rfl ?_
        refine s_if 50 46 rfl rfl rfl (fun (h44 : ¬ k.toInt = 0) => ?_) (fun (h44 : ¬ (¬ k.toInt = 0)) => ?_)
        · --
          refine aw_step (f1 := (51, [some (.ref 65), some (.int k), some (.int v), some (.int x43)], [(.ref 65), (.ref 65)])) (w1 := w) rfl rfl ?_
          refine s_gi J 54 rfl rfl rfl rfl rfl rfl fun x45 x45a x45b x45f => ?_
          have x45v : x45.toInt = fI w 65 7 := by rw [← fI_of x45f]
          refine s_pi J 57 rfl rfl rfl rfl rfl rfl rfl (by omega) (by omega) fun w46 J47 w46e => ?_
          have w46f := fv_st J.1 (p := 65) (kf := 7) rfl (by decide) w46e
          refine aw_step (f1 := (58, [some (.ref 65), some (.int k), some (.int v), some (.int x43)], [(.ref 65)])) (w1 := w46) rfl rfl ?_
          refine aw_step (f1 := (59, [some (.ref 65), some (.int k), some (.int v), some (.int x43)], [(.int k), (.ref 65)])) (w1 := w46) rfl rfl ?_
          refine s_i (pc1 := 60) (ls1 := [some (.ref 65), some (.int k), some (.int v), some (.int x43)]) (st1 := [(.int k), (.ref 65)]) rfl rfl fun x48 e49 => ?_
          have e49t : x48.toInt = 1 := by rw [e49]; rfl
          refine s_ic 67 63 rfl rfl rfl (fun (h50 : ¬ k.toInt = x48.toInt) => ?_) (fun (h50 : ¬ (¬ k.toInt = x48.toInt)) => ?_)
          · --
            refine aw_step (f1 := (68, [some (.ref 65), some (.int k), some (.int v), some (.int x43)], [(.ref 65), (.ref 65)])) (w1 := w46) rfl rfl ?_
            refine s_gi J47 71 rfl rfl rfl rfl rfl rfl fun x51 x51a x51b x51f => ?_
            have x51v : x51.toInt = fI w 65 8 := by rw [← fI_of x51f, fI_eq (w46f.2.2 8 (by decide))]
            refine s_pi J47 74 rfl rfl rfl rfl rfl rfl rfl (by omega) (by omega) fun w52 J53 w52e => ?_
            have w52f := fv_st J47.1 (p := 65) (kf := 8) rfl (by decide) w52e
            refine aw_step (f1 := (75, [some (.ref 65), some (.int k), some (.int v), some (.int x43)], [(.int x43)])) (w1 := w52) rfl rfl ?_
            refine aw_ret (v := some (.int x43)) rfl rfl ?_
            exfalso; omega
          · --
            refine aw_step (f1 := (64, [some (.ref 65), some (.int k), some (.int v), some (.int x43)], [(.int v), (.ref 65)])) (w1 := w46) rfl rfl ?_
            refine aw_step (f1 := (71, [some (.ref 65), some (.int k), some (.int v), some (.int x43)], [(.int v), (.ref 65)])) (w1 := w46) rfl rfl ?_
            refine s_pi J47 74 rfl rfl rfl rfl rfl rfl rfl (by omega) (by omega) fun w54 J55 w54e => ?_
            have w54f := fv_st J47.1 (p := 65) (kf := 8) rfl (by decide) w54e
            refine aw_step (f1 := (75, [some (.ref 65), some (.int k), some (.int v), some (.int x43)], [(.int x43)])) (w1 := w54) rfl rfl ?_
            refine aw_ret (v := some (.int x43)) rfl rfl ?_
            have R1 := R.put (q := 4) (by decide) (by decide) w46f
            have R2 := R1.put (q := 5) (by decide) (by decide) w54f
            rw [upv_id (V := V) (by omega)] at R2
            exact ⟨J55.1, ((w46f.1.sub (by decide)).trans (w54f.1.sub (by decide))), by rw [fI_eq (w54f.2.2 16 (by decide)), fI_eq (w46f.2.2 16 (by decide))], x43, rfl, _, R2, Or.inr (Or.inr (⟨by omega, ⟨by omega, by omega, by omega⟩, rfl⟩))⟩
        · --
          refine aw_step (f1 := (47, [some (.ref 65), some (.int k), some (.int v), some (.int x43)], [(.int v), (.ref 65)])) (w1 := w) rfl rfl ?_
          refine aw_step (f1 := (54, [some (.ref 65), some (.int k), some (.int v), some (.int x43)], [(.int v), (.ref 65)])) (w1 := w) rfl rfl ?_
          refine s_pi J 57 rfl rfl rfl rfl rfl rfl rfl (by omega) (by omega) fun w56 J57 w56e => ?_
          have w56f := fv_st J.1 (p := 65) (kf := 7) rfl (by decide) w56e
          refine aw_step (f1 := (58, [some (.ref 65), some (.int k), some (.int v), some (.int x43)], [(.ref 65)])) (w1 := w56) rfl rfl ?_
          refine aw_step (f1 := (59, [some (.ref 65), some (.int k), some (.int v), some (.int x43)], [(.int k), (.ref 65)])) (w1 := w56) rfl rfl ?_
          refine s_i (pc1 := 60) (ls1 := [some (.ref 65), some (.int k), some (.int v), some (.int x43)]) (st1 := [(.int k), (.ref 65)]) rfl rfl fun x58 e59 => ?_
          have e59t : x58.toInt = 1 := by rw [e59]; rfl
          refine s_ic 67 63 rfl rfl rfl (fun (h60 : ¬ k.toInt = x58.toInt) => ?_) (fun (h60 : ¬ (¬ k.toInt = x58.toInt)) => ?_)
          · --
            refine aw_step (f1 := (68, [some (.ref 65), some (.int k), some (.int v), some (.int x43)], [(.ref 65), (.ref 65)])) (w1 := w56) rfl rfl ?_
            refine s_gi J57 71 rfl rfl rfl rfl rfl rfl fun x61 x61a x61b x61f => ?_
            have x61v : x61.toInt = fI w 65 8 := by rw [← fI_of x61f, fI_eq (w56f.2.2 8 (by decide))]
            refine s_pi J57 74 rfl rfl rfl rfl rfl rfl rfl (by omega) (by omega) fun w62 J63 w62e => ?_
            have w62f := fv_st J57.1 (p := 65) (kf := 8) rfl (by decide) w62e
            refine aw_step (f1 := (75, [some (.ref 65), some (.int k), some (.int v), some (.int x43)], [(.int x43)])) (w1 := w62) rfl rfl ?_
            refine aw_ret (v := some (.int x43)) rfl rfl ?_
            have R1 := R.put (q := 4) (by decide) (by decide) w56f
            have R2 := R1.put (q := 5) (by decide) (by decide) w62f
            rw [upv_id (k := 5) (by rw [upv_n (by decide)]; omega)] at R2
            exact ⟨J63.1, ((w56f.1.sub (by decide)).trans (w62f.1.sub (by decide))), by rw [fI_eq (w62f.2.2 16 (by decide)), fI_eq (w56f.2.2 16 (by decide))], x43, rfl, _, R2, Or.inr (Or.inl ⟨by omega, ⟨by omega, by omega, by omega⟩, rfl⟩)⟩
          · --
            refine aw_step (f1 := (64, [some (.ref 65), some (.int k), some (.int v), some (.int x43)], [(.int v), (.ref 65)])) (w1 := w56) rfl rfl ?_
            refine aw_step (f1 := (71, [some (.ref 65), some (.int k), some (.int v), some (.int x43)], [(.int v), (.ref 65)])) (w1 := w56) rfl rfl ?_
            refine s_pi J57 74 rfl rfl rfl rfl rfl rfl rfl (by omega) (by omega) fun w64 J65 w64e => ?_
            have w64f := fv_st J57.1 (p := 65) (kf := 8) rfl (by decide) w64e
            refine aw_step (f1 := (75, [some (.ref 65), some (.int k), some (.int v), some (.int x43)], [(.int x43)])) (w1 := w64) rfl rfl ?_
            refine aw_ret (v := some (.int x43)) rfl rfl ?_
            exfalso; omega
    · --
      refine s_i (pc1 := 24) (ls1 := [some (.ref 65), some (.int k), some (.int v), none]) (st1 := []) rfl rfl fun x66 e67 => ?_
      have e67t : x66.toInt = -2 := by rw [e67]; rfl
      refine aw_ret (v := some (.int x66)) rfl rfl ?_
      exact ⟨J.1, only.rf, rfl, x66, rfl, _, R, by exact Or.inl ⟨by omega, by omega, rfl⟩⟩
theorem e_person {d : Nat} {w : am_W} {V : Nat → Int} (R : RCs w 3 V) (p c b : Int32) (h6 : 0 ≤ V 6 ∧ V 6 ≤ 15) (I : ab_inv ab_TT ab_sets w) : aw none (d + 3) 79 (QC w (fun z V1 => psP V p.toInt c.toInt b.toInt z V1)) (0, am_entry 79 [.ref 0, .int p, .int c, .int b], []) w := by
  have J : ab_J ab_TT ab_sets ab_WR2 w w := ⟨I, ab_fr.rf⟩
  have sz := szC_in I
  have hs := R.sz
  have r2 := R.f2
  have r3 := R.f3
  have r4 := R.f4
  have r6 := R.f6
  show aw none (d + 3) 79 _ (0, [some (.ref 0), some (.int p), some (.int c), some (.int b)], []) w
  refine aw_step (f1 := (1, [some (.ref 0), some (.int p), some (.int c), some (.int b)], [(.int p)])) (w1 := w) rfl rfl ?_
  refine s_i (pc1 := 2) (ls1 := [some (.ref 0), some (.int p), some (.int c), some (.int b)]) (st1 := [(.int p)]) rfl rfl fun x1 e2 => ?_
  have e2t : x1.toInt = 0 := by rw [e2]; rfl
  refine s_i (pc1 := 3) (ls1 := [some (.ref 0), some (.int p), some (.int c), some (.int b)]) (st1 := [(.int x1), (.int p)]) rfl rfl fun x3 e4 => ?_
  have e4t : x3.toInt = 3 := by rw [e4]; rfl
  refine s_cs (z := 102) (as := [(.int p), (.int x1), (.int x3)]) (st1 := []) 6 rfl rfl rfl rfl rfl rfl (Nat.le_of_ble_eq_true rfl) (Nat.le_of_ble_eq_true rfl) (Nat.le_of_ble_eq_true rfl) (q_within p x1 x3) ?_
  rintro _ _ ⟨rfl, x5, rfl, x5t⟩
  refine ⟨rfl, ?_⟩
  show aw none _ 79 _ (6, [some (.ref 0), some (.int p), some (.int c), some (.int b)], [(.int x5)]) w
  refine s_if 27 9 rfl rfl rfl (fun (h6 : x5.toInt = 0) => ?_) (fun (h6 : ¬ (x5.toInt = 0)) => ?_)
  · --
    refine s_i (pc1 := 28) (ls1 := [some (.ref 0), some (.int p), some (.int c), some (.int b)]) (st1 := []) rfl rfl fun x7 e8 => ?_
    have e8t : x7.toInt = -1 := by rw [e8]; rfl
    refine aw_ret (v := some (.int x7)) rfl rfl ?_
    exact ⟨J.1, only.rf, x7, rfl, _, R, Or.inl ⟨by omega, by first | omega | (have := hl c; omega), rfl⟩⟩
  · --
    refine aw_step (f1 := (10, [some (.ref 0), some (.int p), some (.int c), some (.int b)], [(.ref 0)])) (w1 := w) rfl rfl ?_
    refine s_gr 3 J 13 rfl rfl rfl rfl rfl rfl ?_
    refine aw_step (f1 := (14, [some (.ref 0), some (.int p), some (.int c), some (.int b)], [(.int c), (.ref 3)])) (w1 := w) rfl rfl ?_
    refine s_cv (z := 40) (p := 3) (as := [(.int c)]) (st1 := []) J 17 rfl rfl rfl rfl rfl rfl rfl rfl (Nat.le_of_ble_eq_true rfl) (Nat.le_of_ble_eq_true rfl) (q_isDry R c J.1) ?_
    rintro _ _ ⟨rfl, x9, rfl, x9t⟩
    refine ⟨rfl, ?_⟩
    show aw none _ 79 _ (17, [some (.ref 0), some (.int p), some (.int c), some (.int b)], [(.int x9)]) w
    refine s_if 27 20 rfl rfl rfl (fun (h10 : x9.toInt = 0) => ?_) (fun (h10 : ¬ (x9.toInt = 0)) => ?_)
    · --
      refine s_i (pc1 := 28) (ls1 := [some (.ref 0), some (.int p), some (.int c), some (.int b)]) (st1 := []) rfl rfl fun x11 e12 => ?_
      have e12t : x11.toInt = -1 := by rw [e12]; rfl
      refine aw_ret (v := some (.int x11)) rfl rfl ?_
      exact ⟨J.1, only.rf, x11, rfl, _, R, Or.inl ⟨by omega, by first | omega | (have := hl c; omega), rfl⟩⟩
    · --
      refine aw_step (f1 := (21, [some (.ref 0), some (.int p), some (.int c), some (.int b)], [(.int b)])) (w1 := w) rfl rfl ?_
      refine s_cs (z := 103) (as := [(.int b)]) (st1 := []) 24 rfl rfl rfl rfl rfl rfl (Nat.le_of_ble_eq_true rfl) (Nat.le_of_ble_eq_true rfl) (Nat.le_of_ble_eq_true rfl) (q_isBoots b) ?_
      rintro _ _ ⟨rfl, x13, rfl, x13t⟩
      refine ⟨rfl, ?_⟩
      show aw none _ 79 _ (24, [some (.ref 0), some (.int p), some (.int c), some (.int b)], [(.int x13)]) w
      refine s_if 29 27 rfl rfl rfl (fun (h14 : ¬ x13.toInt = 0) => ?_) (fun (h14 : ¬ (¬ x13.toInt = 0)) => ?_)
      · --
        refine aw_step (f1 := (30, [some (.ref 0), some (.int p), some (.int c), some (.int b)], [(.ref 0)])) (w1 := w) rfl rfl ?_
        refine s_gr 3 J 33 rfl rfl rfl rfl rfl rfl ?_
        refine aw_step (f1 := (34, [some (.ref 0), some (.int p), some (.int c), some (.int b)], [(.ref 3), (.ref 3)])) (w1 := w) rfl rfl ?_
        refine s_gi J 37 rfl rfl rfl rfl rfl rfl fun x15 x15a x15b x15f => ?_
        have x15v : x15.toInt = fI w 3 3 := by rw [← fI_of x15f]
        refine s_i (pc1 := 38) (ls1 := [some (.ref 0), some (.int p), some (.int c), some (.int b)]) (st1 := [(.int x15), (.ref 3)]) rfl rfl fun x16 e17 => ?_
        have e17t : x16.toInt = 1 := by rw [e17]; rfl
        --
        refine aw_step (f1 := (39, [some (.ref 0), some (.int p), some (.int c), some (.int b)], [(.int p), (.int x16), (.int x15), (.ref 3)])) (w1 := w) rfl rfl ?_
        refine s_i (pc1 := 40) (ls1 := [some (.ref 0), some (.int p), some (.int c), some (.int b)]) (st1 := [(.int x15), (.ref 3)]) rfl rfl fun x18 e19 => ?_
        have e19 : x18 = x16 <<< (p &&& 31) := e19
        --
        refine s_i (pc1 := 41) (ls1 := [some (.ref 0), some (.int p), some (.int c), some (.int b)]) (st1 := [(.ref 3)]) rfl rfl fun x20 e21 => ?_
        have e21 : x20 = x15 ||| x18 := e21
        have hq := i_po (x := x15) (p := p) (by omega) (by omega) (by omega) (by omega)
        have hy : x20.toInt = po (V 6) p.toInt := by
          rw [show V 6 = x15.toInt by omega, ← hq.1, e21]
          rw [e19, show x16 = 1 from n_1 (by omega)]
        rw [show x15.toInt = V 6 by omega] at hq
        refine s_pi J 44 rfl rfl rfl rfl rfl rfl rfl (by omega) (by omega) fun w22 J23 w22e => ?_
        have w22f := fv_st J.1 (p := 3) (kf := 3) rfl (by decide) w22e
        refine aw_step (f1 := (45, [some (.ref 0), some (.int p), some (.int c), some (.int b)], [(.ref 0)])) (w1 := w22) rfl rfl ?_
        refine s_gr 3 J23 48 rfl rfl rfl rfl rfl rfl ?_
        refine s_gr 10 J23 51 rfl rfl rfl rfl rfl rfl ?_
        refine aw_step (f1 := (52, [some (.ref 0), some (.int p), some (.int c), some (.int b)], [(.int p), (.ref 10)])) (w1 := w22) rfl rfl ?_
        refine aw_step (f1 := (53, [some (.ref 0), some (.int p), some (.int c), some (.int b)], [(.int c), (.int p), (.ref 10)])) (w1 := w22) rfl rfl ?_
        refine s_is J23 54 rfl rfl rfl rfl (by omega) (by omega) (by omega) (by omega) fun w24 J25 w24e => ?_
        have w24f := rI_st J23.1 (p := 10) (j := p.toInt.toNat) rfl (by omega) w24e
        refine aw_step (f1 := (55, [some (.ref 0), some (.int p), some (.int c), some (.int b)], [(.ref 0)])) (w1 := w24) rfl rfl ?_
        refine s_gr 3 J25 58 rfl rfl rfl rfl rfl rfl ?_
        refine s_gr 11 J25 61 rfl rfl rfl rfl rfl rfl ?_
        refine aw_step (f1 := (62, [some (.ref 0), some (.int p), some (.int c), some (.int b)], [(.int p), (.ref 11)])) (w1 := w24) rfl rfl ?_
        refine aw_step (f1 := (63, [some (.ref 0), some (.int p), some (.int c), some (.int b)], [(.int b), (.int p), (.ref 11)])) (w1 := w24) rfl rfl ?_
        refine s_is J25 64 rfl rfl rfl rfl (by omega) (by omega) (by omega) (by omega) fun w26 J27 w26e => ?_
        have w26f := rI_st J25.1 (p := 11) (j := p.toInt.toNat) rfl (by omega) w26e
        refine aw_step (f1 := (65, [some (.ref 0), some (.int p), some (.int c), some (.int b)], [(.ref 0)])) (w1 := w26) rfl rfl ?_
        refine s_gr 3 J27 68 rfl rfl rfl rfl rfl rfl ?_
        refine s_gi J27 71 rfl rfl rfl rfl rfl rfl fun x28 x28a x28b x28f => ?_
        have x28v : x28.toInt = x20.toInt := by rw [← fI_of x28f, w26f.1.fIe (by decide), w24f.1.fIe (by decide), fI_of w22f.2.1]
        --
        refine s_cs (z := 187) (as := [(.int x28)]) (st1 := []) 74 rfl rfl rfl rfl rfl rfl (Nat.le_of_ble_eq_true rfl) (Nat.le_of_ble_eq_true rfl) (Nat.le_of_ble_eq_true rfl) (q_bc32 x28 (by omega) (by omega)) ?_
        rintro _ _ ⟨rfl, x29, rfl, x29t⟩
        refine ⟨rfl, ?_⟩
        show aw none _ 79 _ (74, [some (.ref 0), some (.int p), some (.int c), some (.int b)], [(.int x29)]) w26
        refine aw_ret (v := some (.int x29)) rfl rfl ?_
        have R1 := R.put (q := 6) (by decide) w22f
        rw [hy] at R1
        have R2 : RCs w24 3 (upv (upv V 6 (po (V 6) p.toInt)) (8 + 4 * p.toInt.toNat + 2) c.toInt) := R1.row (r := 7) (i := p.toInt.toNat) (by decide) (by decide) (by omega) (by show p.toInt.toNat < 4; omega) w24f
        have R3 : RCs w26 3 (upv (upv (upv V 6 (po (V 6) p.toInt)) (8 + 4 * p.toInt.toNat + 2) c.toInt) (8 + 4 * p.toInt.toNat + 3) b.toInt) := R2.row (r := 8) (i := p.toInt.toNat) (by decide) (by decide) (by omega) (by show p.toInt.toNat < 4; omega) w26f
        have hz : x28.toInt.toNat = (po (V 6) p.toInt).toNat := by omega
        exact ⟨J27.1, (((w22f.1.sub (by decide)).trans (w24f.1.sub (by decide))).trans (w26f.1.sub (by decide))), x29, rfl, _, R3, Or.inr (⟨by rw [x29t, hz], ⟨by omega, by omega⟩, ⟨by omega, by omega, by first | omega | (have := hl c; omega)⟩, ⟨by omega, by omega⟩, rfl⟩)⟩
      · --
        refine s_i (pc1 := 28) (ls1 := [some (.ref 0), some (.int p), some (.int c), some (.int b)]) (st1 := []) rfl rfl fun x30 e31 => ?_
        have e31t : x30.toInt = -1 := by rw [e31]; rfl
        refine aw_ret (v := some (.int x30)) rfl rfl ?_
        exact ⟨J.1, only.rf, x30, rfl, _, R, Or.inl ⟨by omega, by first | omega | (have := hl c; omega), rfl⟩⟩
theorem f_person {d : Nat} {w : am_W} {V : Nat → Int} (R : RMs w V) (p c b : Int32) (h6 : 0 ≤ V 6 ∧ V 6 ≤ 15) (I : ab_inv ab_TT ab_sets w) : aw none (d + 3) 157 (QM w (fun z V1 => psP V p.toInt c.toInt b.toInt z V1)) (0, am_entry 157 [.ref 65, .int p, .int c, .int b], []) w := by
  have J : ab_J ab_TT ab_sets ab_WR2 w w := ⟨I, ab_fr.rf⟩
  have sz := szM_in I
  have hs := R.sz
  have r2 := R.f2
  have r3 := R.f3
  have r4 := R.f4
  have r5 := R.f5
  have r6 := R.f6
  have r7 := R.f7
  have hl : ∀ c : Int32, 0 ≤ c.toInt → c.toInt < szV V → rI w 66 c.toInt.toNat = V (40 + c.toInt.toNat) := fun c a b => R.rc (by omega)
  show aw none (d + 3) 157 _ (0, [some (.ref 65), some (.int p), some (.int c), some (.int b)], []) w
  refine aw_step (f1 := (1, [some (.ref 65), some (.int p), some (.int c), some (.int b)], [(.ref 65)])) (w1 := w) rfl rfl ?_
  refine aw_step (f1 := (2, [some (.ref 65), some (.int p), some (.int c), some (.int b)], [(.int p), (.ref 65)])) (w1 := w) rfl rfl ?_
  refine s_cv (z := 156) (p := 65) (as := [(.int p)]) (st1 := []) J 5 rfl rfl rfl rfl rfl rfl rfl rfl (Nat.le_of_ble_eq_true rfl) (Nat.le_of_ble_eq_true rfl) (q_isPerson p) ?_
  rintro _ _ ⟨rfl, x1, rfl, x1t⟩
  refine ⟨rfl, ?_⟩
  show aw none _ 157 _ (5, [some (.ref 65), some (.int p), some (.int c), some (.int b)], [(.int x1)]) w
  refine s_if 23 8 rfl rfl rfl (fun (h2 : x1.toInt = 0) => ?_) (fun (h2 : ¬ (x1.toInt = 0)) => ?_)
  · --
    refine s_i (pc1 := 24) (ls1 := [some (.ref 65), some (.int p), some (.int c), some (.int b)]) (st1 := []) rfl rfl fun x3 e4 => ?_
    have e4t : x3.toInt = -1 := by rw [e4]; rfl
    refine aw_ret (v := some (.int x3)) rfl rfl ?_
    exact ⟨J.1, only.rf, rfl, x3, rfl, _, R, Or.inl ⟨by omega, by first | omega | (have := hl c; omega), rfl⟩⟩
  · --
    refine aw_step (f1 := (9, [some (.ref 65), some (.int p), some (.int c), some (.int b)], [(.ref 65)])) (w1 := w) rfl rfl ?_
    refine aw_step (f1 := (10, [some (.ref 65), some (.int p), some (.int c), some (.int b)], [(.int c), (.ref 65)])) (w1 := w) rfl rfl ?_
    refine s_cv (z := 115) (p := 65) (as := [(.int c)]) (st1 := []) J 13 rfl rfl rfl rfl rfl rfl rfl rfl (Nat.le_of_ble_eq_true rfl) (Nat.le_of_ble_eq_true rfl) (q_isLand c J.1) ?_
    rintro _ _ ⟨rfl, x5, rfl, x5t⟩
    refine ⟨rfl, ?_⟩
    show aw none _ 157 _ (13, [some (.ref 65), some (.int p), some (.int c), some (.int b)], [(.int x5)]) w
    have x5s := szM_in J.1
    refine s_if 23 16 rfl rfl rfl (fun (h6 : x5.toInt = 0) => ?_) (fun (h6 : ¬ (x5.toInt = 0)) => ?_)
    · --
      refine s_i (pc1 := 24) (ls1 := [some (.ref 65), some (.int p), some (.int c), some (.int b)]) (st1 := []) rfl rfl fun x7 e8 => ?_
      have e8t : x7.toInt = -1 := by rw [e8]; rfl
      refine aw_ret (v := some (.int x7)) rfl rfl ?_
      exact ⟨J.1, only.rf, rfl, x7, rfl, _, R, Or.inl ⟨by omega, by first | omega | (have := hl c; omega), rfl⟩⟩
    · --
      refine aw_step (f1 := (17, [some (.ref 65), some (.int p), some (.int c), some (.int b)], [(.int b)])) (w1 := w) rfl rfl ?_
      refine s_cs (z := 116) (as := [(.int b)]) (st1 := []) 20 rfl rfl rfl rfl rfl rfl (Nat.le_of_ble_eq_true rfl) (Nat.le_of_ble_eq_true rfl) (Nat.le_of_ble_eq_true rfl) (q_areBoots b) ?_
      rintro _ _ ⟨rfl, x9, rfl, x9t⟩
      refine ⟨rfl, ?_⟩
      show aw none _ 157 _ (20, [some (.ref 65), some (.int p), some (.int c), some (.int b)], [(.int x9)]) w
      refine s_if 25 23 rfl rfl rfl (fun (h10 : ¬ x9.toInt = 0) => ?_) (fun (h10 : ¬ (¬ x9.toInt = 0)) => ?_)
      · --
        refine aw_step (f1 := (26, [some (.ref 65), some (.int p), some (.int c), some (.int b)], [(.ref 65)])) (w1 := w) rfl rfl ?_
        refine s_gr 69 J 29 rfl rfl rfl rfl rfl rfl ?_
        refine aw_step (f1 := (30, [some (.ref 65), some (.int p), some (.int c), some (.int b)], [(.int p), (.ref 69)])) (w1 := w) rfl rfl ?_
        refine aw_step (f1 := (31, [some (.ref 65), some (.int p), some (.int c), some (.int b)], [(.int c), (.int p), (.ref 69)])) (w1 := w) rfl rfl ?_
        refine s_is J 32 rfl rfl rfl rfl (by omega) (by omega) (by omega) (by omega) fun w11 J12 w11e => ?_
        have w11f := rI_st J.1 (p := 69) (j := p.toInt.toNat) rfl (by omega) w11e
        refine aw_step (f1 := (33, [some (.ref 65), some (.int p), some (.int c), some (.int b)], [(.ref 65)])) (w1 := w11) rfl rfl ?_
        refine s_gr 70 J12 36 rfl rfl rfl rfl rfl rfl ?_
        refine aw_step (f1 := (37, [some (.ref 65), some (.int p), some (.int c), some (.int b)], [(.int p), (.ref 70)])) (w1 := w11) rfl rfl ?_
        refine aw_step (f1 := (38, [some (.ref 65), some (.int p), some (.int c), some (.int b)], [(.int b), (.int p), (.ref 70)])) (w1 := w11) rfl rfl ?_
        refine s_is J12 39 rfl rfl rfl rfl (by omega) (by omega) (by omega) (by omega) fun w13 J14 w13e => ?_
        have w13f := rI_st J12.1 (p := 70) (j := p.toInt.toNat) rfl (by omega) w13e
        refine aw_step (f1 := (40, [some (.ref 65), some (.int p), some (.int c), some (.int b)], [(.ref 65)])) (w1 := w13) rfl rfl ?_
        refine aw_step (f1 := (41, [some (.ref 65), some (.int p), some (.int c), some (.int b)], [(.ref 65), (.ref 65)])) (w1 := w13) rfl rfl ?_
        refine s_gi J14 44 rfl rfl rfl rfl rfl rfl fun x15 x15a x15b x15f => ?_
        have x15v : x15.toInt = fI w 65 9 := by rw [← fI_of x15f, w13f.1.fIe (by decide), w11f.1.fIe (by decide)]
        refine s_i (pc1 := 45) (ls1 := [some (.ref 65), some (.int p), some (.int c), some (.int b)]) (st1 := [(.int x15), (.ref 65)]) rfl rfl fun x16 e17 => ?_
        have e17t : x16.toInt = 1 := by rw [e17]; rfl
        --
        refine aw_step (f1 := (46, [some (.ref 65), some (.int p), some (.int c), some (.int b)], [(.int p), (.int x16), (.int x15), (.ref 65)])) (w1 := w13) rfl rfl ?_
        refine s_i (pc1 := 47) (ls1 := [some (.ref 65), some (.int p), some (.int c), some (.int b)]) (st1 := [(.int x15), (.ref 65)]) rfl rfl fun x18 e19 => ?_
        have e19 : x18 = x16 <<< (p &&& 31) := e19
        --
        refine s_i (pc1 := 48) (ls1 := [some (.ref 65), some (.int p), some (.int c), some (.int b)]) (st1 := [(.ref 65)]) rfl rfl fun x20 e21 => ?_
        have e21 : x20 = x15 ||| x18 := e21
        have hq := i_po (x := x15) (p := p) (by omega) (by omega) (by omega) (by omega)
        have hy : x20.toInt = po (V 6) p.toInt := by
          rw [show V 6 = x15.toInt by omega, ← hq.1, e21]
          rw [e19, show x16 = 1 from n_1 (by omega)]
        rw [show x15.toInt = V 6 by omega] at hq
        refine s_pi J14 51 rfl rfl rfl rfl rfl rfl rfl (by omega) (by omega) fun w22 J23 w22e => ?_
        have w22f := fv_st J14.1 (p := 65) (kf := 9) rfl (by decide) w22e
        refine aw_step (f1 := (52, [some (.ref 65), some (.int p), some (.int c), some (.int b)], [(.ref 65)])) (w1 := w22) rfl rfl ?_
        refine s_gi J23 55 rfl rfl rfl rfl rfl rfl fun x24 x24a x24b x24f => ?_
        have x24v : x24.toInt = x20.toInt := by rw [← fI_of x24f, fI_of w22f.2.1]
        refine s_l (pc1 := 56) (ls1 := [some (.ref 65), some (.int p), some (.int c), some (.int b)]) (st1 := []) rfl rfl fun y25 e26 => ?_
        have e26t : y25.toInt = x24.toInt := by rw [e26]; exact Int32.toInt_toInt64 x24
        --
        refine s_cs (z := 109) (as := [(.long y25)]) (st1 := []) 59 rfl rfl rfl rfl rfl rfl (Nat.le_of_ble_eq_true rfl) (Nat.le_of_ble_eq_true rfl) (Nat.le_of_ble_eq_true rfl) (q_ones y25) ?_
        rintro _ _ ⟨rfl, x27, rfl, x27t⟩
        refine ⟨rfl, ?_⟩
        show aw none _ 157 _ (59, [some (.ref 65), some (.int p), some (.int c), some (.int b)], [(.int x27)]) w22
        have x27c := cnt_le (n64 y25) 64
        refine aw_ret (v := some (.int x27)) rfl rfl ?_
        have R1 := R.rowa (c := 2) (i := p.toInt.toNat) (by decide) (by omega) w11f
        have R2 := R1.rowa (c := 3) (i := p.toInt.toNat) (by decide) (by omega) w13f
        have R3 := R2.put (q := 6) (by decide) (by decide) w22f
        rw [hy, upv_c (b := 6) (by omega), upv_c (a := 8 + 4 * p.toInt.toNat + 2) (b := 6) (by omega)] at R3
        have hz : n64 y25 = (po (V 6) p.toInt).toNat := by rw [n64_c (c := po (V 6) p.toInt) (by omega) (by omega)]
        exact ⟨J23.1, (((w11f.1.sub (by decide)).trans (w13f.1.sub (by decide))).trans (w22f.1.sub (by decide))), by rw [fI_eq (w22f.2.2 16 (by decide)), w13f.1.fIe (by decide), w11f.1.fIe (by decide)], x27, rfl, _, R3, Or.inr (⟨by rw [x27t, hz], ⟨by omega, by omega⟩, ⟨by omega, by omega, by first | omega | (have := hl c; omega)⟩, ⟨by omega, by omega⟩, rfl⟩)⟩
      · --
        refine s_i (pc1 := 24) (ls1 := [some (.ref 65), some (.int p), some (.int c), some (.int b)]) (st1 := []) rfl rfl fun x28 e29 => ?_
        have e29t : x28.toInt = -1 := by rw [e29]; rfl
        refine aw_ret (v := some (.int x28)) rfl rfl ?_
        exact ⟨J.1, only.rf, rfl, x28, rfl, _, R, Or.inl ⟨by omega, by first | omega | (have := hl c; omega), rfl⟩⟩
theorem e_leave {d : Nat} {w : am_W} {V : Nat → Int} (R : RCs w 3 V) (p : Int32) (h6 : 0 ≤ V 6 ∧ V 6 ≤ 15) (I : ab_inv ab_TT ab_sets w) : aw none (d + 3) 80 (QC w (fun z V1 => lvP V p.toInt z V1)) (0, am_entry 80 [.ref 0, .int p], []) w := by
  have J : ab_J ab_TT ab_sets ab_WR2 w w := ⟨I, ab_fr.rf⟩
  have sz := szC_in I
  have hs := R.sz
  have r2 := R.f2
  have r3 := R.f3
  have r4 := R.f4
  have r6 := R.f6
  show aw none (d + 3) 80 _ (0, [some (.ref 0), some (.int p)], []) w
  refine aw_step (f1 := (1, [some (.ref 0), some (.int p)], [(.ref 0)])) (w1 := w) rfl rfl ?_
  refine s_gr 3 J 4 rfl rfl rfl rfl rfl rfl ?_
  refine aw_step (f1 := (5, [some (.ref 0), some (.int p)], [(.int p), (.ref 3)])) (w1 := w) rfl rfl ?_
  refine s_cv (z := 41) (p := 3) (as := [(.int p)]) (st1 := []) J 8 rfl rfl rfl rfl rfl rfl rfl rfl (Nat.le_of_ble_eq_true rfl) (Nat.le_of_ble_eq_true rfl) (q_isThere R h6 p J.1) ?_
  rintro _ _ ⟨rfl, x1, rfl, x1t⟩
  refine ⟨rfl, ?_⟩
  show aw none _ 80 _ (8, [some (.ref 0), some (.int p)], [(.int x1)]) w
  refine s_if 13 11 rfl rfl rfl (fun (h2 : ¬ x1.toInt = 0) => ?_) (fun (h2 : ¬ (¬ x1.toInt = 0)) => ?_)
  · --
    refine aw_step (f1 := (14, [some (.ref 0), some (.int p)], [(.ref 0)])) (w1 := w) rfl rfl ?_
    refine s_gr 3 J 17 rfl rfl rfl rfl rfl rfl ?_
    refine aw_step (f1 := (18, [some (.ref 0), some (.int p)], [(.ref 3), (.ref 3)])) (w1 := w) rfl rfl ?_
    refine s_gi J 21 rfl rfl rfl rfl rfl rfl fun x3 x3a x3b x3f => ?_
    have x3v : x3.toInt = fI w 3 3 := by rw [← fI_of x3f]
    refine s_i (pc1 := 22) (ls1 := [some (.ref 0), some (.int p)]) (st1 := [(.int x3), (.ref 3)]) rfl rfl fun x4 e5 => ?_
    have e5t : x4.toInt = 1 := by rw [e5]; rfl
    --
    refine aw_step (f1 := (23, [some (.ref 0), some (.int p)], [(.int p), (.int x4), (.int x3), (.ref 3)])) (w1 := w) rfl rfl ?_
    refine s_i (pc1 := 24) (ls1 := [some (.ref 0), some (.int p)]) (st1 := [(.int x3), (.ref 3)]) rfl rfl fun x6 e7 => ?_
    have e7 : x6 = x4 <<< (p &&& 31) := e7
    refine s_i (pc1 := 25) (ls1 := [some (.ref 0), some (.int p)]) (st1 := [(.int x6), (.int x3), (.ref 3)]) rfl rfl fun x8 e9 => ?_
    have e9t : x8.toInt = -1 := by rw [e9]; rfl
    --
    refine s_i (pc1 := 26) (ls1 := [some (.ref 0), some (.int p)]) (st1 := [(.int x3), (.ref 3)]) rfl rfl fun x10 e11 => ?_
    have e11 : x10 = x6 ^^^ x8 := e11
    --
    refine s_i (pc1 := 27) (ls1 := [some (.ref 0), some (.int p)]) (st1 := [(.ref 3)]) rfl rfl fun x12 e13 => ?_
    have e13 : x12 = x3 &&& x10 := e13
    have hq := i_po (x := x3) (p := p) (by omega) (by omega) (by omega) (by omega)
    have hy : x12.toInt = pa (V 6) p.toInt := by
      rw [show V 6 = x3.toInt by omega, ← hq.2.1, e13]
      rw [e11, e7, show x4 = 1 from n_1 (by omega), show x8 = -1 from e9]
    rw [show x3.toInt = V 6 by omega] at hq
    refine s_pi J 30 rfl rfl rfl rfl rfl rfl rfl (by omega) (by omega) fun w14 J15 w14e => ?_
    have w14f := fv_st J.1 (p := 3) (kf := 3) rfl (by decide) w14e
    refine aw_step (f1 := (31, [some (.ref 0), some (.int p)], [(.ref 0)])) (w1 := w14) rfl rfl ?_
    refine s_gr 3 J15 34 rfl rfl rfl rfl rfl rfl ?_
    refine s_gi J15 37 rfl rfl rfl rfl rfl rfl fun x16 x16a x16b x16f => ?_
    have x16v : x16.toInt = x12.toInt := by rw [← fI_of x16f, fI_of w14f.2.1]
    --
    refine s_cs (z := 187) (as := [(.int x16)]) (st1 := []) 40 rfl rfl rfl rfl rfl rfl (Nat.le_of_ble_eq_true rfl) (Nat.le_of_ble_eq_true rfl) (Nat.le_of_ble_eq_true rfl) (q_bc32 x16 (by omega) (by omega)) ?_
    rintro _ _ ⟨rfl, x17, rfl, x17t⟩
    refine ⟨rfl, ?_⟩
    show aw none _ 80 _ (40, [some (.ref 0), some (.int p)], [(.int x17)]) w14
    refine aw_ret (v := some (.int x17)) rfl rfl ?_
    have R1 := R.put (q := 6) (by decide) w14f
    rw [hy] at R1
    have hz : x16.toInt.toNat = (pa (V 6) p.toInt).toNat := by omega
    exact ⟨J15.1, (w14f.1.sub (by decide)), x17, rfl, _, R1, Or.inr (⟨by rw [x17t, hz], ⟨by omega, by omega⟩, by omega, rfl⟩)⟩
  · --
    refine s_i (pc1 := 12) (ls1 := [some (.ref 0), some (.int p)]) (st1 := []) rfl rfl fun x18 e19 => ?_
    have e19t : x18.toInt = -1 := by rw [e19]; rfl
    refine aw_ret (v := some (.int x18)) rfl rfl ?_
    exact ⟨J.1, only.rf, x18, rfl, _, R, Or.inl ⟨by omega, by omega, rfl⟩⟩
theorem f_leave {d : Nat} {w : am_W} {V : Nat → Int} (R : RMs w V) (p : Int32) (h6 : 0 ≤ V 6 ∧ V 6 ≤ 15) (I : ab_inv ab_TT ab_sets w) : aw none (d + 3) 158 (QM w (fun z V1 => lvP V p.toInt z V1)) (0, am_entry 158 [.ref 65, .int p], []) w := by
  have J : ab_J ab_TT ab_sets ab_WR2 w w := ⟨I, ab_fr.rf⟩
  have sz := szM_in I
  have hs := R.sz
  have r2 := R.f2
  have r3 := R.f3
  have r4 := R.f4
  have r5 := R.f5
  have r6 := R.f6
  have r7 := R.f7
  have hl : ∀ c : Int32, 0 ≤ c.toInt → c.toInt < szV V → rI w 66 c.toInt.toNat = V (40 + c.toInt.toNat) := fun c a b => R.rc (by omega)
  show aw none (d + 3) 158 _ (0, [some (.ref 65), some (.int p)], []) w
  refine aw_step (f1 := (1, [some (.ref 65), some (.int p)], [(.ref 65)])) (w1 := w) rfl rfl ?_
  refine aw_step (f1 := (2, [some (.ref 65), some (.int p)], [(.int p), (.ref 65)])) (w1 := w) rfl rfl ?_
  refine s_cv (z := 156) (p := 65) (as := [(.int p)]) (st1 := []) J 5 rfl rfl rfl rfl rfl rfl rfl rfl (Nat.le_of_ble_eq_true rfl) (Nat.le_of_ble_eq_true rfl) (q_isPerson p) ?_
  rintro _ _ ⟨rfl, x1, rfl, x1t⟩
  refine ⟨rfl, ?_⟩
  show aw none _ 158 _ (5, [some (.ref 65), some (.int p)], [(.int x1)]) w
  refine s_if 19 8 rfl rfl rfl (fun (h2 : x1.toInt = 0) => ?_) (fun (h2 : ¬ (x1.toInt = 0)) => ?_)
  · --
    refine s_i (pc1 := 20) (ls1 := [some (.ref 65), some (.int p)]) (st1 := []) rfl rfl fun x3 e4 => ?_
    have e4t : x3.toInt = -1 := by rw [e4]; rfl
    refine aw_ret (v := some (.int x3)) rfl rfl ?_
    exact ⟨J.1, only.rf, rfl, x3, rfl, _, R, Or.inl ⟨by omega, by omega, rfl⟩⟩
  · --
    refine aw_step (f1 := (9, [some (.ref 65), some (.int p)], [(.ref 65)])) (w1 := w) rfl rfl ?_
    refine s_gi J 12 rfl rfl rfl rfl rfl rfl fun x5 x5a x5b x5f => ?_
    have x5v : x5.toInt = fI w 65 9 := by rw [← fI_of x5f]
    refine aw_step (f1 := (13, [some (.ref 65), some (.int p)], [(.int p), (.int x5)])) (w1 := w) rfl rfl ?_
    --
    refine s_i (pc1 := 14) (ls1 := [some (.ref 65), some (.int p)]) (st1 := []) rfl rfl fun x6 e7 => ?_
    have e7 : x6 = x5 >>> (p &&& 31) := e7
    refine s_i (pc1 := 15) (ls1 := [some (.ref 65), some (.int p)]) (st1 := [(.int x6)]) rfl rfl fun x8 e9 => ?_
    have e9t : x8.toInt = 1 := by rw [e9]; rfl
    --
    refine s_i (pc1 := 16) (ls1 := [some (.ref 65), some (.int p)]) (st1 := []) rfl rfl fun x10 e11 => ?_
    have e11 : x10 = x6 &&& x8 := e11
    have hb : x10.toInt = bt (V 6).toNat p.toInt.toNat := by
      have hq := (i_po (x := x5) (p := p) (by omega) (by omega) (by omega) (by omega)).2.2.1
      rw [show V 6 = x5.toInt by omega, ← hq, e11, e7, show x8 = 1 from n_1 (by omega)]
    have hle := bt_le (V 6).toNat p.toInt.toNat
    refine s_if 21 19 rfl rfl rfl (fun (h12 : ¬ x10.toInt = 0) => ?_) (fun (h12 : ¬ (¬ x10.toInt = 0)) => ?_)
    · --
      refine aw_step (f1 := (22, [some (.ref 65), some (.int p)], [(.ref 65)])) (w1 := w) rfl rfl ?_
      refine aw_step (f1 := (23, [some (.ref 65), some (.int p)], [(.ref 65), (.ref 65)])) (w1 := w) rfl rfl ?_
      refine s_gi J 26 rfl rfl rfl rfl rfl rfl fun x13 x13a x13b x13f => ?_
      have x13v : x13.toInt = fI w 65 9 := by rw [← fI_of x13f]
      refine s_i (pc1 := 27) (ls1 := [some (.ref 65), some (.int p)]) (st1 := [(.int x13), (.ref 65)]) rfl rfl fun x14 e15 => ?_
      have e15t : x14.toInt = 1 := by rw [e15]; rfl
      refine aw_step (f1 := (28, [some (.ref 65), some (.int p)], [(.int p), (.int x14), (.int x13), (.ref 65)])) (w1 := w) rfl rfl ?_
      --
      refine s_i (pc1 := 29) (ls1 := [some (.ref 65), some (.int p)]) (st1 := [(.int x13), (.ref 65)]) rfl rfl fun x16 e17 => ?_
      have e17 : x16 = x14 <<< (p &&& 31) := e17
      refine s_i (pc1 := 30) (ls1 := [some (.ref 65), some (.int p)]) (st1 := [(.int x16), (.int x13), (.ref 65)]) rfl rfl fun x18 e19 => ?_
      have e19t : x18.toInt = -1 := by rw [e19]; rfl
      --
      refine s_i (pc1 := 31) (ls1 := [some (.ref 65), some (.int p)]) (st1 := [(.int x13), (.ref 65)]) rfl rfl fun x20 e21 => ?_
      have e21 : x20 = x16 ^^^ x18 := e21
      --
      refine s_i (pc1 := 32) (ls1 := [some (.ref 65), some (.int p)]) (st1 := [(.ref 65)]) rfl rfl fun x22 e23 => ?_
      have e23 : x22 = x13 &&& x20 := e23
      have hq := i_po (x := x13) (p := p) (by omega) (by omega) (by omega) (by omega)
      have hy : x22.toInt = pa (V 6) p.toInt := by
        rw [show V 6 = x13.toInt by omega, ← hq.2.1, e23]
        rw [e21, e17, show x14 = 1 from n_1 (by omega), show x18 = -1 from e19]
      rw [show x13.toInt = V 6 by omega] at hq
      refine s_pi J 35 rfl rfl rfl rfl rfl rfl rfl (by omega) (by omega) fun w24 J25 w24e => ?_
      have w24f := fv_st J.1 (p := 65) (kf := 9) rfl (by decide) w24e
      refine aw_step (f1 := (36, [some (.ref 65), some (.int p)], [(.ref 65)])) (w1 := w24) rfl rfl ?_
      refine s_gi J25 39 rfl rfl rfl rfl rfl rfl fun x26 x26a x26b x26f => ?_
      have x26v : x26.toInt = x22.toInt := by rw [← fI_of x26f, fI_of w24f.2.1]
      refine s_l (pc1 := 40) (ls1 := [some (.ref 65), some (.int p)]) (st1 := []) rfl rfl fun y27 e28 => ?_
      have e28t : y27.toInt = x26.toInt := by rw [e28]; exact Int32.toInt_toInt64 x26
      --
      refine s_cs (z := 109) (as := [(.long y27)]) (st1 := []) 43 rfl rfl rfl rfl rfl rfl (Nat.le_of_ble_eq_true rfl) (Nat.le_of_ble_eq_true rfl) (Nat.le_of_ble_eq_true rfl) (q_ones y27) ?_
      rintro _ _ ⟨rfl, x29, rfl, x29t⟩
      refine ⟨rfl, ?_⟩
      show aw none _ 158 _ (43, [some (.ref 65), some (.int p)], [(.int x29)]) w24
      have x29c := cnt_le (n64 y27) 64
      refine aw_ret (v := some (.int x29)) rfl rfl ?_
      have R1 := R.put (q := 6) (by decide) (by decide) w24f
      rw [hy] at R1
      have hz : n64 y27 = (pa (V 6) p.toInt).toNat := by rw [n64_c (c := pa (V 6) p.toInt) (by omega) (by omega)]
      exact ⟨J25.1, (w24f.1.sub (by decide)), by rw [fI_eq (w24f.2.2 16 (by decide))], x29, rfl, _, R1, Or.inr (⟨by rw [x29t, hz], ⟨by omega, by omega⟩, by omega, rfl⟩)⟩
    · --
      refine s_i (pc1 := 20) (ls1 := [some (.ref 65), some (.int p)]) (st1 := []) rfl rfl fun x30 e31 => ?_
      have e31t : x30.toInt = -1 := by rw [e31]; rfl
      refine aw_ret (v := some (.int x30)) rfl rfl ?_
      exact ⟨J.1, only.rf, rfl, x30, rfl, _, R, Or.inl ⟨by omega, by omega, rfl⟩⟩
theorem e_seen {d : Nat} {w : am_W} {V : Nat → Int} (R : RCs w 3 V) (m s : Int32) (I : ab_inv ab_TT ab_sets w) : aw none (d + 3) 83 (QC w (fun z V1 => snP V m.toInt s.toInt z V1)) (0, am_entry 83 [.ref 0, .int m, .int s], []) w := by
  have J : ab_J ab_TT ab_sets ab_WR2 w w := ⟨I, ab_fr.rf⟩
  have sz := szC_in I
  have hs := R.sz
  have r2 := R.f2
  have r3 := R.f3
  have r4 := R.f4
  have r6 := R.f6
  show aw none (d + 3) 83 _ (0, [some (.ref 0), some (.int m), some (.int s)], []) w
  refine aw_step (f1 := (1, [some (.ref 0), some (.int m), some (.int s)], [(.ref 0)])) (w1 := w) rfl rfl ?_
  refine s_gr 3 J 4 rfl rfl rfl rfl rfl rfl ?_
  refine aw_step (f1 := (5, [some (.ref 0), some (.int m), some (.int s)], [(.int m), (.ref 3)])) (w1 := w) rfl rfl ?_
  refine s_cv (z := 39) (p := 3) (as := [(.int m)]) (st1 := []) J 8 rfl rfl rfl rfl rfl rfl rfl rfl (Nat.le_of_ble_eq_true rfl) (Nat.le_of_ble_eq_true rfl) (q_hasCell m J.1) ?_
  rintro _ _ ⟨rfl, x1, rfl, x1t⟩
  refine ⟨rfl, ?_⟩
  show aw none _ 83 _ (8, [some (.ref 0), some (.int m), some (.int s)], [(.int x1)]) w
  refine s_if 13 11 rfl rfl rfl (fun (h2 : ¬ x1.toInt = 0) => ?_) (fun (h2 : ¬ (¬ x1.toInt = 0)) => ?_)
  · --
    refine aw_step (f1 := (14, [some (.ref 0), some (.int m), some (.int s)], [(.int s)])) (w1 := w) rfl rfl ?_
    refine s_i (pc1 := 15) (ls1 := [some (.ref 0), some (.int m), some (.int s)]) (st1 := [(.int s)]) rfl rfl fun x3 e4 => ?_
    have e4t : x3.toInt = 0 := by rw [e4]; rfl
    refine s_i (pc1 := 17) (ls1 := [some (.ref 0), some (.int m), some (.int s)]) (st1 := [(.int x3), (.int s)]) rfl rfl fun x5 e6 => ?_
    have e6t : x5.toInt = 50 := by rw [e6]; rfl
    refine s_cs (z := 102) (as := [(.int s), (.int x3), (.int x5)]) (st1 := []) 20 rfl rfl rfl rfl rfl rfl (Nat.le_of_ble_eq_true rfl) (Nat.le_of_ble_eq_true rfl) (Nat.le_of_ble_eq_true rfl) (q_within s x3 x5) ?_
    rintro _ _ ⟨rfl, x7, rfl, x7t⟩
    refine ⟨rfl, ?_⟩
    show aw none _ 83 _ (20, [some (.ref 0), some (.int m), some (.int s)], [(.int x7)]) w
    refine s_if 26 23 rfl rfl rfl (fun (h8 : ¬ x7.toInt = 0) => ?_) (fun (h8 : ¬ (¬ x7.toInt = 0)) => ?_)
    · --
      refine aw_step (f1 := (27, [some (.ref 0), some (.int m), some (.int s)], [(.ref 0)])) (w1 := w) rfl rfl ?_
      refine s_gr 3 J 30 rfl rfl rfl rfl rfl rfl ?_
      refine s_gi J 33 rfl rfl rfl rfl rfl rfl fun x9 x9a x9b x9f => ?_
      have x9v : x9.toInt = fI w 3 4 := by rw [← fI_of x9f]
      refine s_i (pc1 := 35) (ls1 := [some (.ref 0), some (.int m), some (.int s)]) (st1 := [(.int x9)]) rfl rfl fun x10 e11 => ?_
      have e11t : x10.toInt = 8 := by rw [e11]; rfl
      refine s_ic 41 38 rfl rfl rfl (fun (h12 : x9.toInt < x10.toInt) => ?_) (fun (h12 : ¬ (x9.toInt < x10.toInt)) => ?_)
      · --
        refine aw_step (f1 := (42, [some (.ref 0), some (.int m), some (.int s)], [(.ref 0)])) (w1 := w) rfl rfl ?_
        refine s_gr 3 J 45 rfl rfl rfl rfl rfl rfl ?_
        refine s_gr 12 J 48 rfl rfl rfl rfl rfl rfl ?_
        refine aw_step (f1 := (49, [some (.ref 0), some (.int m), some (.int s)], [(.ref 0), (.ref 12)])) (w1 := w) rfl rfl ?_
        refine s_gr 3 J 52 rfl rfl rfl rfl rfl rfl ?_
        refine s_gi J 55 rfl rfl rfl rfl rfl rfl fun x13 x13a x13b x13f => ?_
        have x13v : x13.toInt = fI w 3 4 := by rw [← fI_of x13f]
        refine aw_step (f1 := (56, [some (.ref 0), some (.int m), some (.int s)], [(.int m), (.int x13), (.ref 12)])) (w1 := w) rfl rfl ?_
        refine s_is J 57 rfl rfl rfl rfl (by omega) (by omega) (by omega) (by omega) fun w14 J15 w14e => ?_
        have w14f := rI_st J.1 (p := 12) (j := x13.toInt.toNat) rfl (by omega) w14e
        refine aw_step (f1 := (58, [some (.ref 0), some (.int m), some (.int s)], [(.ref 0)])) (w1 := w14) rfl rfl ?_
        refine s_gr 3 J15 61 rfl rfl rfl rfl rfl rfl ?_
        refine s_gr 13 J15 64 rfl rfl rfl rfl rfl rfl ?_
        refine aw_step (f1 := (65, [some (.ref 0), some (.int m), some (.int s)], [(.ref 0), (.ref 13)])) (w1 := w14) rfl rfl ?_
        refine s_gr 3 J15 68 rfl rfl rfl rfl rfl rfl ?_
        refine s_gi J15 71 rfl rfl rfl rfl rfl rfl fun x16 x16a x16b x16f => ?_
        have x16v : x16.toInt = fI w 3 4 := by rw [← fI_of x16f, w14f.1.fIe (by decide)]
        refine aw_step (f1 := (72, [some (.ref 0), some (.int m), some (.int s)], [(.int s), (.int x16), (.ref 13)])) (w1 := w14) rfl rfl ?_
        refine s_is J15 73 rfl rfl rfl rfl (by omega) (by omega) (by omega) (by omega) fun w17 J18 w17e => ?_
        have w17f := rI_st J15.1 (p := 13) (j := x16.toInt.toNat) rfl (by omega) w17e
        refine aw_step (f1 := (74, [some (.ref 0), some (.int m), some (.int s)], [(.ref 0)])) (w1 := w17) rfl rfl ?_
        refine s_gr 3 J18 77 rfl rfl rfl rfl rfl rfl ?_
        refine aw_step (f1 := (78, [some (.ref 0), some (.int m), some (.int s)], [(.ref 3), (.ref 3)])) (w1 := w17) rfl rfl ?_
        refine s_gi J18 81 rfl rfl rfl rfl rfl rfl fun x19 x19a x19b x19f => ?_
        have x19v : x19.toInt = fI w 3 4 := by rw [← fI_of x19f, w17f.1.fIe (by decide), w14f.1.fIe (by decide)]
        refine s_i (pc1 := 82) (ls1 := [some (.ref 0), some (.int m), some (.int s)]) (st1 := [(.int x19), (.ref 3)]) rfl rfl fun x20 e21 => ?_
        have e21t : x20.toInt = 1 := by rw [e21]; rfl
        refine s_i (pc1 := 83) (ls1 := [some (.ref 0), some (.int m), some (.int s)]) (st1 := [(.ref 3)]) rfl rfl fun x22 e23 => ?_
        have e23 : x22 = x19 + x20 := e23
        have e23t : x22.toInt = x19.toInt + x20.toInt := by rw [e23]; exact n_add (by omega) (by omega)
        refine s_pi J18 86 rfl rfl rfl rfl rfl rfl rfl (by omega) (by omega) fun w24 J25 w24e => ?_
        have w24f := fv_st J18.1 (p := 3) (kf := 4) rfl (by decide) w24e
        refine aw_step (f1 := (87, [some (.ref 0), some (.int m), some (.int s)], [(.ref 0)])) (w1 := w24) rfl rfl ?_
        refine s_gr 3 J25 90 rfl rfl rfl rfl rfl rfl ?_
        refine s_gi J25 93 rfl rfl rfl rfl rfl rfl fun x26 x26a x26b x26f => ?_
        have x26v : x26.toInt = x22.toInt := by rw [← fI_of x26f, fI_of w24f.2.1]
        refine aw_ret (v := some (.int x26)) rfl rfl ?_
        have R1 := R.row (r := 9) (i := x13.toInt.toNat) (by decide) (by decide) (by omega) (by show x13.toInt.toNat < 8; omega) w14f
        rw [show x13.toInt.toNat = (V 7).toNat by omega] at R1
        have R1 : RCs w14 3 (upv V (24 + 2 * (V 7).toNat + 0) m.toInt) := R1
        have R2 := R1.row (r := 10) (i := x16.toInt.toNat) (by decide) (by decide) (by omega) (by show x16.toInt.toNat < 8; omega) w17f
        rw [show x16.toInt.toNat = (V 7).toNat by omega] at R2
        have R2 : RCs w17 3 (upv (upv V (24 + 2 * (V 7).toNat + 0) m.toInt) (24 + 2 * (V 7).toNat + 1) s.toInt) := R2
        have R3 := R2.put (q := 7) (by decide) w24f
        rw [show x22.toInt = V 7 + 1 by omega] at R3
        exact ⟨J25.1, (((w14f.1.sub (by decide)).trans (w17f.1.sub (by decide))).trans (w24f.1.sub (by decide))), x26, rfl, _, R3, Or.inr (Or.inr (Or.inr (⟨by omega, ⟨by omega, by omega⟩, ⟨by omega, by omega⟩, by omega, rfl⟩)))⟩
      · --
        refine s_i (pc1 := 40) (ls1 := [some (.ref 0), some (.int m), some (.int s)]) (st1 := []) rfl rfl fun x27 e28 => ?_
        have e28t : x27.toInt = -4 := by rw [e28]; rfl
        refine aw_ret (v := some (.int x27)) rfl rfl ?_
        exact ⟨J.1, only.rf, x27, rfl, _, R, by first | exact Or.inl ⟨by omega, by omega, rfl⟩ | exact Or.inr (Or.inl ⟨by omega, ⟨by omega, by omega⟩, by omega, rfl⟩) | exact Or.inr (Or.inr (Or.inl ⟨by omega, ⟨by omega, by omega⟩, ⟨by omega, by omega⟩, by omega, rfl⟩))⟩
    · --
      refine s_i (pc1 := 25) (ls1 := [some (.ref 0), some (.int m), some (.int s)]) (st1 := []) rfl rfl fun x29 e30 => ?_
      have e30t : x29.toInt = -2 := by rw [e30]; rfl
      refine aw_ret (v := some (.int x29)) rfl rfl ?_
      exact ⟨J.1, only.rf, x29, rfl, _, R, by first | exact Or.inl ⟨by omega, by omega, rfl⟩ | exact Or.inr (Or.inl ⟨by omega, ⟨by omega, by omega⟩, by omega, rfl⟩) | exact Or.inr (Or.inr (Or.inl ⟨by omega, ⟨by omega, by omega⟩, ⟨by omega, by omega⟩, by omega, rfl⟩))⟩
  · --
    refine s_i (pc1 := 12) (ls1 := [some (.ref 0), some (.int m), some (.int s)]) (st1 := []) rfl rfl fun x31 e32 => ?_
    have e32t : x31.toInt = -1 := by rw [e32]; rfl
    refine aw_ret (v := some (.int x31)) rfl rfl ?_
    exact ⟨J.1, only.rf, x31, rfl, _, R, by first | exact Or.inl ⟨by omega, by omega, rfl⟩ | exact Or.inr (Or.inl ⟨by omega, ⟨by omega, by omega⟩, by omega, rfl⟩) | exact Or.inr (Or.inr (Or.inl ⟨by omega, ⟨by omega, by omega⟩, ⟨by omega, by omega⟩, by omega, rfl⟩))⟩
theorem f_seen {d : Nat} {w : am_W} {V : Nat → Int} (R : RMs w V) (m s : Int32) (I : ab_inv ab_TT ab_sets w) : aw none (d + 3) 161 (QM w (fun z V1 => snP V m.toInt s.toInt z V1)) (0, am_entry 161 [.ref 65, .int m, .int s], []) w := by
  have J : ab_J ab_TT ab_sets ab_WR2 w w := ⟨I, ab_fr.rf⟩
  have sz := szM_in I
  have hs := R.sz
  have r2 := R.f2
  have r3 := R.f3
  have r4 := R.f4
  have r5 := R.f5
  have r6 := R.f6
  have r7 := R.f7
  have hl : ∀ c : Int32, 0 ≤ c.toInt → c.toInt < szV V → rI w 66 c.toInt.toNat = V (40 + c.toInt.toNat) := fun c a b => R.rc (by omega)
  show aw none (d + 3) 161 _ (0, [some (.ref 65), some (.int m), some (.int s)], []) w
  refine aw_step (f1 := (1, [some (.ref 65), some (.int m), some (.int s)], [(.ref 65)])) (w1 := w) rfl rfl ?_
  refine aw_step (f1 := (2, [some (.ref 65), some (.int m), some (.int s)], [(.int m), (.ref 65)])) (w1 := w) rfl rfl ?_
  refine s_cv (z := 114) (p := 65) (as := [(.int m)]) (st1 := []) J 5 rfl rfl rfl rfl rfl rfl rfl rfl (Nat.le_of_ble_eq_true rfl) (Nat.le_of_ble_eq_true rfl) (q_isCell m J.1) ?_
  rintro _ _ ⟨rfl, x1, rfl, x1t⟩
  refine ⟨rfl, ?_⟩
  show aw none _ 161 _ (5, [some (.ref 65), some (.int m), some (.int s)], [(.int x1)]) w
  have x1s := szM_in J.1
  refine s_if 10 8 rfl rfl rfl (fun (h2 : ¬ x1.toInt = 0) => ?_) (fun (h2 : ¬ (¬ x1.toInt = 0)) => ?_)
  · --
    refine aw_step (f1 := (11, [some (.ref 65), some (.int m), some (.int s)], [(.int s)])) (w1 := w) rfl rfl ?_
    refine s_l (pc1 := 12) (ls1 := [some (.ref 65), some (.int m), some (.int s)]) (st1 := []) rfl rfl fun y3 e4 => ?_
    have e4t : y3.toInt = s.toInt := by rw [e4]; exact Int32.toInt_toInt64 s
    refine s_l (pc1 := 13) (ls1 := [some (.ref 65), some (.int m), some (.int s)]) (st1 := [(.long y3)]) rfl rfl fun y5 e6 => ?_
    have e6t : y5.toInt = 0 := by rw [e6]; rfl
    refine s_l (pc1 := 16) (ls1 := [some (.ref 65), some (.int m), some (.int s)]) (st1 := [(.long y5), (.long y3)]) rfl rfl fun y7 e8 => ?_
    have e8t : y7.toInt = 50 := by rw [e8]; rfl
    refine s_cs (z := 108) (as := [(.long y3), (.long y5), (.long y7)]) (st1 := []) 19 rfl rfl rfl rfl rfl rfl (Nat.le_of_ble_eq_true rfl) (Nat.le_of_ble_eq_true rfl) (Nat.le_of_ble_eq_true rfl) (q_in2 y3 y5 y7) ?_
    rintro _ _ ⟨rfl, x9, rfl, x9t⟩
    refine ⟨rfl, ?_⟩
    show aw none _ 161 _ (19, [some (.ref 65), some (.int m), some (.int s)], [(.int x9)]) w
    refine s_if 25 22 rfl rfl rfl (fun (h10 : ¬ x9.toInt = 0) => ?_) (fun (h10 : ¬ (¬ x9.toInt = 0)) => ?_)
    · --
      refine aw_step (f1 := (26, [some (.ref 65), some (.int m), some (.int s)], [(.ref 65)])) (w1 := w) rfl rfl ?_
      refine s_gi J 29 rfl rfl rfl rfl rfl rfl fun x11 x11a x11b x11f => ?_
      have x11v : x11.toInt = fI w 65 14 := by rw [← fI_of x11f]
      refine s_i (pc1 := 31) (ls1 := [some (.ref 65), some (.int m), some (.int s)]) (st1 := [(.int x11)]) rfl rfl fun x12 e13 => ?_
      have e13t : x12.toInt = 8 := by rw [e13]; rfl
      refine s_ic 37 34 rfl rfl rfl (fun (h14 : ¬ x11.toInt = x12.toInt) => ?_) (fun (h14 : ¬ (¬ x11.toInt = x12.toInt)) => ?_)
      · --
        refine aw_step (f1 := (38, [some (.ref 65), some (.int m), some (.int s)], [(.ref 65)])) (w1 := w) rfl rfl ?_
        refine s_gr 71 J 41 rfl rfl rfl rfl rfl rfl ?_
        refine aw_step (f1 := (42, [some (.ref 65), some (.int m), some (.int s)], [(.ref 65), (.ref 71)])) (w1 := w) rfl rfl ?_
        refine s_gi J 45 rfl rfl rfl rfl rfl rfl fun x15 x15a x15b x15f => ?_
        have x15v : x15.toInt = fI w 65 14 := by rw [← fI_of x15f]
        refine aw_step (f1 := (46, [some (.ref 65), some (.int m), some (.int s)], [(.int m), (.int x15), (.ref 71)])) (w1 := w) rfl rfl ?_
        refine s_is J 47 rfl rfl rfl rfl (by omega) (by omega) (by omega) (by omega) fun w16 J17 w16e => ?_
        have w16f := rI_st J.1 (p := 71) (j := x15.toInt.toNat) rfl (by omega) w16e
        refine aw_step (f1 := (48, [some (.ref 65), some (.int m), some (.int s)], [(.ref 65)])) (w1 := w16) rfl rfl ?_
        refine s_gr 72 J17 51 rfl rfl rfl rfl rfl rfl ?_
        refine aw_step (f1 := (52, [some (.ref 65), some (.int m), some (.int s)], [(.ref 65), (.ref 72)])) (w1 := w16) rfl rfl ?_
        refine s_gi J17 55 rfl rfl rfl rfl rfl rfl fun x18 x18a x18b x18f => ?_
        have x18v : x18.toInt = fI w 65 14 := by rw [← fI_of x18f, w16f.1.fIe (by decide)]
        refine aw_step (f1 := (56, [some (.ref 65), some (.int m), some (.int s)], [(.int s), (.int x18), (.ref 72)])) (w1 := w16) rfl rfl ?_
        refine s_is J17 57 rfl rfl rfl rfl (by omega) (by omega) (by omega) (by omega) fun w19 J20 w19e => ?_
        have w19f := rI_st J17.1 (p := 72) (j := x18.toInt.toNat) rfl (by omega) w19e
        refine aw_step (f1 := (58, [some (.ref 65), some (.int m), some (.int s)], [(.ref 65)])) (w1 := w19) rfl rfl ?_
        refine aw_step (f1 := (59, [some (.ref 65), some (.int m), some (.int s)], [(.ref 65), (.ref 65)])) (w1 := w19) rfl rfl ?_
        refine s_gi J20 62 rfl rfl rfl rfl rfl rfl fun x21 x21a x21b x21f => ?_
        have x21v : x21.toInt = fI w 65 14 := by rw [← fI_of x21f, w19f.1.fIe (by decide), w16f.1.fIe (by decide)]
        refine s_i (pc1 := 63) (ls1 := [some (.ref 65), some (.int m), some (.int s)]) (st1 := [(.int x21), (.ref 65)]) rfl rfl fun x22 e23 => ?_
        have e23t : x22.toInt = 1 := by rw [e23]; rfl
        refine s_i (pc1 := 64) (ls1 := [some (.ref 65), some (.int m), some (.int s)]) (st1 := [(.ref 65)]) rfl rfl fun x24 e25 => ?_
        have e25 : x24 = x21 + x22 := e25
        have e25t : x24.toInt = x21.toInt + x22.toInt := by rw [e25]; exact n_add (by omega) (by omega)
        refine s_pi J20 67 rfl rfl rfl rfl rfl rfl rfl (by omega) (by omega) fun w26 J27 w26e => ?_
        have w26f := fv_st J20.1 (p := 65) (kf := 14) rfl (by decide) w26e
        refine aw_step (f1 := (68, [some (.ref 65), some (.int m), some (.int s)], [(.ref 65)])) (w1 := w26) rfl rfl ?_
        refine s_gi J27 71 rfl rfl rfl rfl rfl rfl fun x28 x28a x28b x28f => ?_
        have x28v : x28.toInt = x24.toInt := by rw [← fI_of x28f, fI_of w26f.2.1]
        refine aw_ret (v := some (.int x28)) rfl rfl ?_
        have R1 := R.rowb (c := 0) (i := x15.toInt.toNat) (by decide) (by omega) w16f
        rw [show x15.toInt.toNat = (V 7).toNat by omega] at R1
        have R2 := R1.rowb (c := 1) (i := x18.toInt.toNat) (by decide) (by omega) w19f
        rw [show x18.toInt.toNat = (V 7).toNat by omega] at R2
        have R3 := R2.put (q := 7) (by decide) (by decide) w26f
        rw [show x24.toInt = V 7 + 1 by omega] at R3
        exact ⟨J27.1, (((w16f.1.sub (by decide)).trans (w19f.1.sub (by decide))).trans (w26f.1.sub (by decide))), by rw [fI_eq (w26f.2.2 16 (by decide)), w19f.1.fIe (by decide), w16f.1.fIe (by decide)], x28, rfl, _, R3, Or.inr (Or.inr (Or.inr (⟨by omega, ⟨by omega, by omega⟩, ⟨by omega, by omega⟩, by omega, rfl⟩)))⟩
      · --
        refine s_i (pc1 := 36) (ls1 := [some (.ref 65), some (.int m), some (.int s)]) (st1 := []) rfl rfl fun x29 e30 => ?_
        have e30t : x29.toInt = -4 := by rw [e30]; rfl
        refine aw_ret (v := some (.int x29)) rfl rfl ?_
        exact ⟨J.1, only.rf, rfl, x29, rfl, _, R, by first | exact Or.inl ⟨by omega, by omega, rfl⟩ | exact Or.inr (Or.inl ⟨by omega, ⟨by omega, by omega⟩, by omega, rfl⟩) | exact Or.inr (Or.inr (Or.inl ⟨by omega, ⟨by omega, by omega⟩, ⟨by omega, by omega⟩, by omega, rfl⟩))⟩
    · --
      refine s_i (pc1 := 24) (ls1 := [some (.ref 65), some (.int m), some (.int s)]) (st1 := []) rfl rfl fun x31 e32 => ?_
      have e32t : x31.toInt = -2 := by rw [e32]; rfl
      refine aw_ret (v := some (.int x31)) rfl rfl ?_
      exact ⟨J.1, only.rf, rfl, x31, rfl, _, R, by first | exact Or.inl ⟨by omega, by omega, rfl⟩ | exact Or.inr (Or.inl ⟨by omega, ⟨by omega, by omega⟩, by omega, rfl⟩) | exact Or.inr (Or.inr (Or.inl ⟨by omega, ⟨by omega, by omega⟩, ⟨by omega, by omega⟩, by omega, rfl⟩))⟩
  · --
    refine s_i (pc1 := 9) (ls1 := [some (.ref 65), some (.int m), some (.int s)]) (st1 := []) rfl rfl fun x33 e34 => ?_
    have e34t : x33.toInt = -1 := by rw [e34]; rfl
    refine aw_ret (v := some (.int x33)) rfl rfl ?_
    exact ⟨J.1, only.rf, rfl, x33, rfl, _, R, by first | exact Or.inl ⟨by omega, by omega, rfl⟩ | exact Or.inr (Or.inl ⟨by omega, ⟨by omega, by omega⟩, by omega, rfl⟩) | exact Or.inr (Or.inr (Or.inl ⟨by omega, ⟨by omega, by omega⟩, ⟨by omega, by omega⟩, by omega, rfl⟩))⟩
theorem e_forget {d : Nat} {w : am_W} {V : Nat → Int} (R : RCs w 3 V) (I : ab_inv ab_TT ab_sets w) : aw none (d + 3) 84 (QC w (fun z V1 => fgP V z V1)) (0, am_entry 84 [.ref 0], []) w := by
  have J : ab_J ab_TT ab_sets ab_WR2 w w := ⟨I, ab_fr.rf⟩
  have sz := szC_in I
  have hs := R.sz
  have r2 := R.f2
  have r3 := R.f3
  have r4 := R.f4
  have r6 := R.f6
  show aw none (d + 3) 84 _ (0, [some (.ref 0), none], []) w
  refine aw_step (f1 := (1, [some (.ref 0), none], [(.ref 0)])) (w1 := w) rfl rfl ?_
  refine s_gr 3 J 4 rfl rfl rfl rfl rfl rfl ?_
  refine s_gi J 7 rfl rfl rfl rfl rfl rfl fun x1 x1a x1b x1f => ?_
  have x1v : x1.toInt = fI w 3 4 := by rw [← fI_of x1f]
  refine aw_step (f1 := (8, [some (.ref 0), some (.int x1)], [])) (w1 := w) rfl rfl ?_
  refine aw_step (f1 := (9, [some (.ref 0), some (.int x1)], [(.ref 0)])) (w1 := w) rfl rfl ?_
  refine s_gr 3 J 12 rfl rfl rfl rfl rfl rfl ?_
  refine s_i (pc1 := 13) (ls1 := [some (.ref 0), some (.int x1)]) (st1 := [(.ref 3)]) rfl rfl fun x2 e3 => ?_
  have e3t : x2.toInt = 0 := by rw [e3]; rfl
  refine s_pi J 16 rfl rfl rfl rfl rfl rfl rfl (by omega) (by omega) fun w4 J5 w4e => ?_
  have w4f := fv_st J.1 (p := 3) (kf := 4) rfl (by decide) w4e
  refine aw_step (f1 := (17, [some (.ref 0), some (.int x1)], [(.int x1)])) (w1 := w4) rfl rfl ?_
  refine aw_ret (v := some (.int x1)) rfl rfl ?_
  have R1 := R.put (q := 7) (by decide) w4f
  rw [show x2.toInt = 0 by omega] at R1
  exact ⟨J5.1, (w4f.1.sub (by decide)), x1, rfl, _, R1, ⟨by omega, rfl⟩⟩
theorem f_forget {d : Nat} {w : am_W} {V : Nat → Int} (R : RMs w V) (I : ab_inv ab_TT ab_sets w) : aw none (d + 3) 162 (QM w (fun z V1 => fgP V z V1)) (0, am_entry 162 [.ref 65], []) w := by
  have J : ab_J ab_TT ab_sets ab_WR2 w w := ⟨I, ab_fr.rf⟩
  have sz := szM_in I
  have hs := R.sz
  have r2 := R.f2
  have r3 := R.f3
  have r4 := R.f4
  have r5 := R.f5
  have r6 := R.f6
  have r7 := R.f7
  have hl : ∀ c : Int32, 0 ≤ c.toInt → c.toInt < szV V → rI w 66 c.toInt.toNat = V (40 + c.toInt.toNat) := fun c a b => R.rc (by omega)
  show aw none (d + 3) 162 _ (0, [some (.ref 65), none], []) w
  refine aw_step (f1 := (1, [some (.ref 65), none], [(.ref 65)])) (w1 := w) rfl rfl ?_
  refine s_gi J 4 rfl rfl rfl rfl rfl rfl fun x1 x1a x1b x1f => ?_
  have x1v : x1.toInt = fI w 65 14 := by rw [← fI_of x1f]
  refine aw_step (f1 := (5, [some (.ref 65), some (.int x1)], [])) (w1 := w) rfl rfl ?_
  refine aw_step (f1 := (6, [some (.ref 65), some (.int x1)], [(.ref 65)])) (w1 := w) rfl rfl ?_
  refine s_i (pc1 := 7) (ls1 := [some (.ref 65), some (.int x1)]) (st1 := [(.ref 65)]) rfl rfl fun x2 e3 => ?_
  have e3t : x2.toInt = 0 := by rw [e3]; rfl
  refine s_pi J 10 rfl rfl rfl rfl rfl rfl rfl (by omega) (by omega) fun w4 J5 w4e => ?_
  have w4f := fv_st J.1 (p := 65) (kf := 14) rfl (by decide) w4e
  refine aw_step (f1 := (11, [some (.ref 65), some (.int x1)], [(.int x1)])) (w1 := w4) rfl rfl ?_
  refine aw_ret (v := some (.int x1)) rfl rfl ?_
  have R1 := R.put (q := 7) (by decide) (by decide) w4f
  rw [show x2.toInt = 0 by omega] at R1
  exact ⟨J5.1, (w4f.1.sub (by decide)), by rw [fI_eq (w4f.2.2 16 (by decide))], x1, rfl, _, R1, ⟨by omega, rfl⟩⟩
theorem e_say {d : Nat} {w : am_W} {n : Int} {P : Nat → Int} (R : RCp w n P) (s : Int32) (I : ab_inv ab_TT ab_sets w) : aw none (d + 3) 61 (QCp w (fun z n1 P1 => syP n P s.toInt z n1 P1)) (0, am_entry 61 [.ref 0, .int s], []) w := by
  have J : ab_J ab_TT ab_sets ab_WR2 w w := ⟨I, ab_fr.rf⟩
  have hn := R.1
  have nb := fI_in (p := 1) (k := 1) I rfl rfl
  show aw none (d + 3) 61 _ (0, [some (.ref 0), some (.int s)], []) w
  refine aw_step (f1 := (1, [some (.ref 0), some (.int s)], [(.int s)])) (w1 := w) rfl rfl ?_
  refine s_i (pc1 := 3) (ls1 := [some (.ref 0), some (.int s)]) (st1 := [(.int s)]) rfl rfl fun x1 e2 => ?_
  have e2t : x1.toInt = 33 := by rw [e2]; rfl
  refine s_i (pc1 := 5) (ls1 := [some (.ref 0), some (.int s)]) (st1 := [(.int x1), (.int s)]) rfl rfl fun x3 e4 => ?_
  have e4t : x3.toInt = 126 := by rw [e4]; rfl
  refine s_cs (z := 102) (as := [(.int s), (.int x1), (.int x3)]) (st1 := []) 8 rfl rfl rfl rfl rfl rfl (Nat.le_of_ble_eq_true rfl) (Nat.le_of_ble_eq_true rfl) (Nat.le_of_ble_eq_true rfl) (q_within s x1 x3) ?_
  rintro _ _ ⟨rfl, x5, rfl, x5t⟩
  refine ⟨rfl, ?_⟩
  show aw none _ 61 _ (8, [some (.ref 0), some (.int s)], [(.int x5)]) w
  refine s_if 14 11 rfl rfl rfl (fun (h6 : ¬ x5.toInt = 0) => ?_) (fun (h6 : ¬ (¬ x5.toInt = 0)) => ?_)
  · --
    refine aw_step (f1 := (15, [some (.ref 0), some (.int s)], [(.ref 0)])) (w1 := w) rfl rfl ?_
    refine s_gr 1 J 18 rfl rfl rfl rfl rfl rfl ?_
    refine s_gi J 21 rfl rfl rfl rfl rfl rfl fun x7 x7a x7b x7f => ?_
    have x7v : x7.toInt = fI w 1 1 := by rw [← fI_of x7f]
    refine s_i (pc1 := 23) (ls1 := [some (.ref 0), some (.int s)]) (st1 := [(.int x7)]) rfl rfl fun x8 e9 => ?_
    have e9t : x8.toInt = 60 := by rw [e9]; rfl
    refine s_ic 29 26 rfl rfl rfl (fun (h10 : x7.toInt < x8.toInt) => ?_) (fun (h10 : ¬ (x7.toInt < x8.toInt)) => ?_)
    · --
      refine aw_step (f1 := (30, [some (.ref 0), some (.int s)], [(.ref 0)])) (w1 := w) rfl rfl ?_
      refine s_gr 1 J 33 rfl rfl rfl rfl rfl rfl ?_
      refine s_gr 2 J 36 rfl rfl rfl rfl rfl rfl ?_
      refine aw_step (f1 := (37, [some (.ref 0), some (.int s)], [(.ref 0), (.ref 2)])) (w1 := w) rfl rfl ?_
      refine s_gr 1 J 40 rfl rfl rfl rfl rfl rfl ?_
      refine s_gi J 43 rfl rfl rfl rfl rfl rfl fun x11 x11a x11b x11f => ?_
      have x11v : x11.toInt = fI w 1 1 := by rw [← fI_of x11f]
      refine aw_step (f1 := (44, [some (.ref 0), some (.int s)], [(.int s), (.int x11), (.ref 2)])) (w1 := w) rfl rfl ?_
      refine s_is J 45 rfl rfl rfl rfl (by omega) (by omega) (by omega) (by omega) fun w12 J13 w12e => ?_
      have w12f := rI_st J.1 (p := 2) (j := x11.toInt.toNat) rfl (by omega) w12e
      refine aw_step (f1 := (46, [some (.ref 0), some (.int s)], [(.ref 0)])) (w1 := w12) rfl rfl ?_
      refine s_gr 1 J13 49 rfl rfl rfl rfl rfl rfl ?_
      refine aw_step (f1 := (50, [some (.ref 0), some (.int s)], [(.ref 1), (.ref 1)])) (w1 := w12) rfl rfl ?_
      refine s_gi J13 53 rfl rfl rfl rfl rfl rfl fun x14 x14a x14b x14f => ?_
      have x14v : x14.toInt = fI w 1 1 := by rw [← fI_of x14f, w12f.1.fIe (by decide)]
      refine s_i (pc1 := 54) (ls1 := [some (.ref 0), some (.int s)]) (st1 := [(.int x14), (.ref 1)]) rfl rfl fun x15 e16 => ?_
      have e16t : x15.toInt = 1 := by rw [e16]; rfl
      refine s_i (pc1 := 55) (ls1 := [some (.ref 0), some (.int s)]) (st1 := [(.ref 1)]) rfl rfl fun x17 e18 => ?_
      have e18 : x17 = x14 + x15 := e18
      have e18t : x17.toInt = x14.toInt + x15.toInt := by rw [e18]; exact n_add (by omega) (by omega)
      refine s_pi J13 58 rfl rfl rfl rfl rfl rfl rfl (by omega) (by omega) fun w19 J20 w19e => ?_
      have w19f := fv_st J13.1 (p := 1) (kf := 1) rfl (by decide) w19e
      refine aw_step (f1 := (59, [some (.ref 0), some (.int s)], [(.ref 0)])) (w1 := w19) rfl rfl ?_
      refine s_gr 1 J20 62 rfl rfl rfl rfl rfl rfl ?_
      refine s_gi J20 65 rfl rfl rfl rfl rfl rfl fun x21 x21a x21b x21f => ?_
      have x21v : x21.toInt = x17.toInt := by rw [← fI_of x21f, fI_of w19f.2.1]
      refine aw_ret (v := some (.int x21)) rfl rfl ?_
      have e1 : fI w19 1 1 = n + 1 := by rw [fI_of w19f.2.1]; omega
      have e2 : ∀ j : Nat, rI w19 2 j = upv P n.toNat s.toInt j := by
        intro j
        rw [w19f.1.rIe (by decide)]
        by_cases q : j = n.toNat
        · rw [q, upv_s, show n.toNat = x11.toInt.toNat by omega]; exact w12f.2.1
        · rw [upv_n q, w12f.2.2 j (by omega)]; exact R.2 j
      exact ⟨J20.1, ((w12f.1.sub (by decide)).trans (w19f.1.sub (by decide))), x21, rfl, _, _, ⟨e1, e2⟩, Or.inr (Or.inr (⟨by omega, ⟨by omega, by omega⟩, by omega, rfl, rfl⟩))⟩
    · --
      refine s_i (pc1 := 28) (ls1 := [some (.ref 0), some (.int s)]) (st1 := []) rfl rfl fun x22 e23 => ?_
      have e23t : x22.toInt = -4 := by rw [e23]; rfl
      refine aw_ret (v := some (.int x22)) rfl rfl ?_
      exact ⟨J.1, only.rf, x22, rfl, _, _, R, by first | exact Or.inl ⟨by omega, by omega, rfl, rfl⟩ | exact Or.inr (Or.inl ⟨by omega, ⟨by omega, by omega⟩, by omega, rfl, rfl⟩)⟩
  · --
    refine s_i (pc1 := 13) (ls1 := [some (.ref 0), some (.int s)]) (st1 := []) rfl rfl fun x24 e25 => ?_
    have e25t : x24.toInt = -2 := by rw [e25]; rfl
    refine aw_ret (v := some (.int x24)) rfl rfl ?_
    exact ⟨J.1, only.rf, x24, rfl, _, _, R, by first | exact Or.inl ⟨by omega, by omega, rfl, rfl⟩ | exact Or.inr (Or.inl ⟨by omega, ⟨by omega, by omega⟩, by omega, rfl, rfl⟩)⟩
theorem f_say {d : Nat} {w : am_W} {n : Int} {P : Nat → Int} {V : Nat → Int} (RV : RMs w V) (R : RMp w n P) (s : Int32) (I : ab_inv ab_TT ab_sets w) : aw none (d + 3) 119 (QMp w V (fun z n1 P1 => syP n P s.toInt z n1 P1)) (0, am_entry 119 [.ref 65, .int s], []) w := by
  have J : ab_J ab_TT ab_sets ab_WR2 w w := ⟨I, ab_fr.rf⟩
  have hn := R.1
  have nb := fI_in (p := 65) (k := 16) I rfl rfl
  show aw none (d + 3) 119 _ (0, [some (.ref 65), some (.int s)], []) w
  refine aw_step (f1 := (1, [some (.ref 65), some (.int s)], [(.int s)])) (w1 := w) rfl rfl ?_
  refine s_l (pc1 := 2) (ls1 := [some (.ref 65), some (.int s)]) (st1 := []) rfl rfl fun y1 e2 => ?_
  have e2t : y1.toInt = s.toInt := by rw [e2]; exact Int32.toInt_toInt64 s
  refine s_l (pc1 := 5) (ls1 := [some (.ref 65), some (.int s)]) (st1 := [(.long y1)]) rfl rfl fun y3 e4 => ?_
  have e4t : y3.toInt = 33 := by rw [e4]; rfl
  refine s_l (pc1 := 8) (ls1 := [some (.ref 65), some (.int s)]) (st1 := [(.long y3), (.long y1)]) rfl rfl fun y5 e6 => ?_
  have e6t : y5.toInt = 126 := by rw [e6]; rfl
  refine s_cs (z := 108) (as := [(.long y1), (.long y3), (.long y5)]) (st1 := []) 11 rfl rfl rfl rfl rfl rfl (Nat.le_of_ble_eq_true rfl) (Nat.le_of_ble_eq_true rfl) (Nat.le_of_ble_eq_true rfl) (q_in2 y1 y3 y5) ?_
  rintro _ _ ⟨rfl, x7, rfl, x7t⟩
  refine ⟨rfl, ?_⟩
  show aw none _ 119 _ (11, [some (.ref 65), some (.int s)], [(.int x7)]) w
  refine s_if 17 14 rfl rfl rfl (fun (h8 : ¬ x7.toInt = 0) => ?_) (fun (h8 : ¬ (¬ x7.toInt = 0)) => ?_)
  · --
    refine aw_step (f1 := (18, [some (.ref 65), some (.int s)], [(.ref 65)])) (w1 := w) rfl rfl ?_
    refine s_gi J 21 rfl rfl rfl rfl rfl rfl fun x9 x9a x9b x9f => ?_
    have x9v : x9.toInt = fI w 65 16 := by rw [← fI_of x9f]
    refine s_i (pc1 := 23) (ls1 := [some (.ref 65), some (.int s)]) (st1 := [(.int x9)]) rfl rfl fun x10 e11 => ?_
    have e11t : x10.toInt = 60 := by rw [e11]; rfl
    refine s_ic 29 26 rfl rfl rfl (fun (h12 : ¬ x9.toInt = x10.toInt) => ?_) (fun (h12 : ¬ (¬ x9.toInt = x10.toInt)) => ?_)
    · --
      refine aw_step (f1 := (30, [some (.ref 65), some (.int s)], [(.ref 65)])) (w1 := w) rfl rfl ?_
      refine s_gr 73 J 33 rfl rfl rfl rfl rfl rfl ?_
      refine aw_step (f1 := (34, [some (.ref 65), some (.int s)], [(.ref 65), (.ref 73)])) (w1 := w) rfl rfl ?_
      refine s_gi J 37 rfl rfl rfl rfl rfl rfl fun x13 x13a x13b x13f => ?_
      have x13v : x13.toInt = fI w 65 16 := by rw [← fI_of x13f]
      refine aw_step (f1 := (38, [some (.ref 65), some (.int s)], [(.int s), (.int x13), (.ref 73)])) (w1 := w) rfl rfl ?_
      refine s_is J 39 rfl rfl rfl rfl (by omega) (by omega) (by omega) (by omega) fun w14 J15 w14e => ?_
      have w14f := rI_st J.1 (p := 73) (j := x13.toInt.toNat) rfl (by omega) w14e
      refine aw_step (f1 := (40, [some (.ref 65), some (.int s)], [(.ref 65)])) (w1 := w14) rfl rfl ?_
      refine aw_step (f1 := (41, [some (.ref 65), some (.int s)], [(.ref 65), (.ref 65)])) (w1 := w14) rfl rfl ?_
      refine s_gi J15 44 rfl rfl rfl rfl rfl rfl fun x16 x16a x16b x16f => ?_
      have x16v : x16.toInt = fI w 65 16 := by rw [← fI_of x16f, w14f.1.fIe (by decide)]
      refine s_i (pc1 := 45) (ls1 := [some (.ref 65), some (.int s)]) (st1 := [(.int x16), (.ref 65)]) rfl rfl fun x17 e18 => ?_
      have e18t : x17.toInt = 1 := by rw [e18]; rfl
      refine s_i (pc1 := 46) (ls1 := [some (.ref 65), some (.int s)]) (st1 := [(.ref 65)]) rfl rfl fun x19 e20 => ?_
      have e20 : x19 = x16 + x17 := e20
      have e20t : x19.toInt = x16.toInt + x17.toInt := by rw [e20]; exact n_add (by omega) (by omega)
      refine s_pi J15 49 rfl rfl rfl rfl rfl rfl rfl (by omega) (by omega) fun w21 J22 w21e => ?_
      have w21f := fv_st J15.1 (p := 65) (kf := 16) rfl (by decide) w21e
      refine aw_step (f1 := (50, [some (.ref 65), some (.int s)], [(.ref 65)])) (w1 := w21) rfl rfl ?_
      refine s_gi J22 53 rfl rfl rfl rfl rfl rfl fun x23 x23a x23b x23f => ?_
      have x23v : x23.toInt = x19.toInt := by rw [← fI_of x23f, fI_of w21f.2.1]
      refine aw_ret (v := some (.int x23)) rfl rfl ?_
      have e1 : fI w21 65 16 = n + 1 := by rw [fI_of w21f.2.1]; omega
      have e2 : ∀ j : Nat, rI w21 73 j = upv P n.toNat s.toInt j := by
        intro j
        rw [w21f.1.rIe (by decide)]
        by_cases q : j = n.toNat
        · rw [q, upv_s, show n.toNat = x13.toInt.toNat by omega]; exact w14f.2.1
        · rw [upv_n q, w14f.2.2 j (by omega)]; exact R.2 j
      exact ⟨J22.1, ((w14f.1.sub (by decide)).trans (w21f.1.sub (by decide))), RMs.pad (RMs.of RV w14f.1 (fun q a b => by simp only [List.mem_singleton]; omega)) w21f, x23, rfl, _, _, ⟨e1, e2⟩, Or.inr (Or.inr (⟨by omega, ⟨by omega, by omega⟩, by omega, rfl, rfl⟩))⟩
    · --
      refine s_i (pc1 := 28) (ls1 := [some (.ref 65), some (.int s)]) (st1 := []) rfl rfl fun x24 e25 => ?_
      have e25t : x24.toInt = -4 := by rw [e25]; rfl
      refine aw_ret (v := some (.int x24)) rfl rfl ?_
      exact ⟨J.1, only.rf, RV, x24, rfl, _, _, R, by first | exact Or.inl ⟨by omega, by omega, rfl, rfl⟩ | exact Or.inr (Or.inl ⟨by omega, ⟨by omega, by omega⟩, by omega, rfl, rfl⟩)⟩
  · --
    refine s_i (pc1 := 16) (ls1 := [some (.ref 65), some (.int s)]) (st1 := []) rfl rfl fun x26 e27 => ?_
    have e27t : x26.toInt = -2 := by rw [e27]; rfl
    refine aw_ret (v := some (.int x26)) rfl rfl ?_
    exact ⟨J.1, only.rf, RV, x26, rfl, _, _, R, by first | exact Or.inl ⟨by omega, by omega, rfl, rfl⟩ | exact Or.inr (Or.inl ⟨by omega, ⟨by omega, by omega⟩, by omega, rfl, rfl⟩)⟩
theorem e_wipe {d : Nat} {w : am_W} {n : Int} {P : Nat → Int} (R : RCp w n P) (I : ab_inv ab_TT ab_sets w) : aw none (d + 3) 62 (QCp w (fun z n1 P1 => z = n ∧ n1 = 0 ∧ P1 = P)) (0, am_entry 62 [.ref 0], []) w := by
  have J : ab_J ab_TT ab_sets ab_WR2 w w := ⟨I, ab_fr.rf⟩
  have hn := R.1
  have nb := fI_in (p := 1) (k := 1) I rfl rfl
  show aw none (d + 3) 62 _ (0, [some (.ref 0), none], []) w
  refine aw_step (f1 := (1, [some (.ref 0), none], [(.ref 0)])) (w1 := w) rfl rfl ?_
  refine s_gr 1 J 4 rfl rfl rfl rfl rfl rfl ?_
  refine s_gi J 7 rfl rfl rfl rfl rfl rfl fun x1 x1a x1b x1f => ?_
  have x1v : x1.toInt = fI w 1 1 := by rw [← fI_of x1f]
  refine aw_step (f1 := (8, [some (.ref 0), some (.int x1)], [])) (w1 := w) rfl rfl ?_
  refine aw_step (f1 := (9, [some (.ref 0), some (.int x1)], [(.ref 0)])) (w1 := w) rfl rfl ?_
  refine s_gr 1 J 12 rfl rfl rfl rfl rfl rfl ?_
  refine s_i (pc1 := 13) (ls1 := [some (.ref 0), some (.int x1)]) (st1 := [(.ref 1)]) rfl rfl fun x2 e3 => ?_
  have e3t : x2.toInt = 0 := by rw [e3]; rfl
  refine s_pi J 16 rfl rfl rfl rfl rfl rfl rfl (by omega) (by omega) fun w4 J5 w4e => ?_
  have w4f := fv_st J.1 (p := 1) (kf := 1) rfl (by decide) w4e
  refine aw_step (f1 := (17, [some (.ref 0), some (.int x1)], [(.int x1)])) (w1 := w4) rfl rfl ?_
  refine aw_ret (v := some (.int x1)) rfl rfl ?_
  have e1 : fI w4 1 1 = 0 := by rw [fI_of w4f.2.1]; omega
  exact ⟨J5.1, (w4f.1.sub (by decide)), x1, rfl, _, _, ⟨e1, fun j => (w4f.1.rIe (by decide)).trans (R.2 j)⟩, ⟨by omega, rfl, rfl⟩⟩
theorem f_wipe {d : Nat} {w : am_W} {n : Int} {P : Nat → Int} {V : Nat → Int} (RV : RMs w V) (R : RMp w n P) (I : ab_inv ab_TT ab_sets w) : aw none (d + 3) 120 (QMp w V (fun z n1 P1 => z = n ∧ n1 = 0 ∧ P1 = P)) (0, am_entry 120 [.ref 65], []) w := by
  have J : ab_J ab_TT ab_sets ab_WR2 w w := ⟨I, ab_fr.rf⟩
  have hn := R.1
  have nb := fI_in (p := 65) (k := 16) I rfl rfl
  show aw none (d + 3) 120 _ (0, [some (.ref 65), none], []) w
  refine aw_step (f1 := (1, [some (.ref 65), none], [(.ref 65)])) (w1 := w) rfl rfl ?_
  refine s_gi J 4 rfl rfl rfl rfl rfl rfl fun x1 x1a x1b x1f => ?_
  have x1v : x1.toInt = fI w 65 16 := by rw [← fI_of x1f]
  refine aw_step (f1 := (5, [some (.ref 65), some (.int x1)], [])) (w1 := w) rfl rfl ?_
  refine aw_step (f1 := (6, [some (.ref 65), some (.int x1)], [(.ref 65)])) (w1 := w) rfl rfl ?_
  refine s_i (pc1 := 7) (ls1 := [some (.ref 65), some (.int x1)]) (st1 := [(.ref 65)]) rfl rfl fun x2 e3 => ?_
  have e3t : x2.toInt = 0 := by rw [e3]; rfl
  refine s_pi J 10 rfl rfl rfl rfl rfl rfl rfl (by omega) (by omega) fun w4 J5 w4e => ?_
  have w4f := fv_st J.1 (p := 65) (kf := 16) rfl (by decide) w4e
  refine aw_step (f1 := (11, [some (.ref 65), some (.int x1)], [(.int x1)])) (w1 := w4) rfl rfl ?_
  refine aw_ret (v := some (.int x1)) rfl rfl ?_
  have e1 : fI w4 65 16 = 0 := by rw [fI_of w4f.2.1]; omega
  exact ⟨J5.1, (w4f.1.sub (by decide)), RMs.pad RV w4f, x1, rfl, _, _, ⟨e1, fun j => (w4f.1.rIe (by decide)).trans (R.2 j)⟩, ⟨by omega, rfl, rfl⟩⟩
