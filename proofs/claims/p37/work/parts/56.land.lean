/-! ===== land ===== -/
theorem J25_of {w w1 : am_W} (h : ab_J ab_TT ab_sets ab_WR5 w w1) : ab_J ab_TT ab_sets ab_WR2 w w1 := ⟨h.1, fr_sub h.2 (by decide) (by decide)⟩
theorem q_settle {d : Nat} {w : am_W} (I : ab_inv ab_TT ab_sets w) : aw none (d + 3) 36 (fun r w1 => r = none ∧ ab_J ab_TT ab_sets ab_WR2 w w1 ∧ fI w1 3 0 = fI w 3 0 ∧ fI w1 3 1 = fI w 3 1) (0, am_entry 36 [.ref 3], []) w := by
  refine ((ok_v (as := [.ref 3]) kt4 (by decide) I (And.intro vF_r trivial)).deep (by omega)).mono ?_
  rintro r w1 ⟨e, J⟩
  exact ⟨e, J25_of J, fI_eq (fr_fv J I (p := 3) rfl (by decide) (by decide)), fI_eq (fr_fv J I (p := 3) rfl (by decide) (by decide))⟩
theorem q_forgetAll {d : Nat} {w : am_W} (a : Int32) (ha : 0 ≤ a.toInt ∧ a.toInt ≤ 35) (I : ab_inv ab_TT ab_sets w) : aw none (d + 1) 112 (fun r w1 => r = none ∧ ab_J ab_TT ab_sets ab_WR2 w w1 ∧ fI w1 65 0 = fI w 65 0 ∧ fI w1 65 1 = fI w 65 1) (0, am_entry 112 [.ref 65, .int a], []) w := by
  refine ((ok_v (as := [.ref 65, .int a]) kt5 (by decide) I (And.intro vF_r (And.intro (vF_i ha.1 ha.2) trivial))).deep (by omega)).mono ?_
  rintro r w1 ⟨e, J⟩
  exact ⟨e, J25_of J, fI_eq (fr_fv J I (p := 65) rfl (by decide) (by decide)), fI_eq (fr_fv J I (p := 65) rfl (by decide) (by decide))⟩
noncomputable def lnV (a b : Int) : Int := if (1 ≤ a ∧ a ≤ 6) ∧ 1 ≤ b ∧ b ≤ 6 then a * b else -2
noncomputable def QLn (w : am_W) (a b : Int) : Option Value → am_W → Prop := fun r w1 => ab_J ab_TT ab_sets ab_WR2 w w1 ∧ ∃ z : Int32, r = some (.int z) ∧ z.toInt = lnV a b
theorem q_mpI {d : Nat} {Q : Option Value → am_W → Prop} {w00 : am_W} (a b r : Int32) (ha : 1 ≤ a.toInt ∧ a.toInt ≤ 6) (hb : 1 ≤ b.toInt ∧ b.toInt ≤ 6) (hr : 0 ≤ r.toInt ∧ r.toInt < 6) (K : ∀ (w : am_W) (c : Int32) (o5x : Option Value), ab_J ab_TT ab_sets ab_WR2 w00 w → fI w 3 0 = a.toInt → fI w 3 1 = b.toInt → aw none (d + 4) 34 Q (75, [some (.ref 3), some (.int a), some (.int b), some (.int r), some (.int c), o5x], []) w) : ∀ (m : Nat) (w : am_W) (c : Int32) (o5x : Option Value), (b.toInt - c.toInt).toNat < m → 0 ≤ c.toInt → c.toInt ≤ b.toInt → ab_J ab_TT ab_sets ab_WR2 w00 w → fI w 3 0 = a.toInt → fI w 3 1 = b.toInt → aw none (d + 4) 34 Q (23, [some (.ref 3), some (.int a), some (.int b), some (.int r), some (.int c), o5x], []) w := by
  intro m
  induction m with
  | zero => intro w c o5x p; omega
  | succ m ih =>
    intro w c o5x p1 p2 p3 J e0 e1
    refine aw_step (f1 := (25, [some (.ref 3), some (.int a), some (.int b), some (.int r), some (.int c), o5x], [(.int c)])) (w1 := w) rfl rfl ?_
    refine aw_step (f1 := (26, [some (.ref 3), some (.int a), some (.int b), some (.int r), some (.int c), o5x], [(.ref 3), (.int c)])) (w1 := w) rfl rfl ?_
    refine s_gi J 29 rfl rfl rfl rfl rfl rfl fun x1 x1a x1b x1f => ?_
    have hc := fI_of x1f
    refine s_ic 75 32 rfl rfl rfl (fun (h2 : x1.toInt ≤ c.toInt) => ?_) (fun (h2 : ¬ (x1.toInt ≤ c.toInt)) => ?_)
    · --
      exact K w c _ J e0 e1
    · --
      refine aw_step (f1 := (33, [some (.ref 3), some (.int a), some (.int b), some (.int r), some (.int c), o5x], [(.int r)])) (w1 := w) rfl rfl ?_
      refine aw_step (f1 := (34, [some (.ref 3), some (.int a), some (.int b), some (.int r), some (.int c), o5x], [(.ref 3), (.int r)])) (w1 := w) rfl rfl ?_
      refine s_gi J 37 rfl rfl rfl rfl rfl rfl fun x3 x3a x3b x3f => ?_
      have hc2 := fI_of x3f
      have mm : r.toInt * x3.toInt ≤ 30 ∧ 0 ≤ r.toInt * x3.toInt := by
        have := hc2
        have r5 : r.toInt = 0 ∨ r.toInt = 1 ∨ r.toInt = 2 ∨ r.toInt = 3 ∨ r.toInt = 4 ∨ r.toInt = 5 := by omega
        rcases r5 with q | q | q | q | q | q <;> rw [q] <;> omega
      refine s_i (pc1 := 38) (ls1 := [some (.ref 3), some (.int a), some (.int b), some (.int r), some (.int c), o5x]) (st1 := []) rfl rfl fun x4 e5 => ?_
      have e5 : x4 = r * x3 := e5
      have m1 : x4.toInt = r.toInt * x3.toInt := by rw [e5, n_mul (by omega) (by omega)]
      refine aw_step (f1 := (40, [some (.ref 3), some (.int a), some (.int b), some (.int r), some (.int c), o5x], [(.int c), (.int x4)])) (w1 := w) rfl rfl ?_
      refine s_i (pc1 := 41) (ls1 := [some (.ref 3), some (.int a), some (.int b), some (.int r), some (.int c), o5x]) (st1 := []) rfl rfl fun x6 e7 => ?_
      have e7 : x6 = x4 + c := e7
      have e7t : x6.toInt = x4.toInt + c.toInt := by rw [e7]; exact n_add (by omega) (by omega)
      refine aw_step (f1 := (43, [some (.ref 3), some (.int a), some (.int b), some (.int r), some (.int c), some (.int x6)], [])) (w1 := w) rfl rfl ?_
      --
      refine aw_step (f1 := (44, [some (.ref 3), some (.int a), some (.int b), some (.int r), some (.int c), some (.int x6)], [(.ref 3)])) (w1 := w) rfl rfl ?_
      refine s_gr 4 J 47 rfl rfl rfl rfl rfl rfl ?_
      refine aw_step (f1 := (49, [some (.ref 3), some (.int a), some (.int b), some (.int r), some (.int c), some (.int x6)], [(.int x6), (.ref 4)])) (w1 := w) rfl rfl ?_
      refine s_i (pc1 := 51) (ls1 := [some (.ref 3), some (.int a), some (.int b), some (.int r), some (.int c), some (.int x6)]) (st1 := [(.int x6), (.ref 4)]) rfl rfl fun x8 e9 => ?_
      have e9t : x8.toInt = 46 := by rw [e9]; rfl
      refine s_is J 52 rfl rfl rfl rfl (by omega) (by omega) (by omega) (by omega) fun w10 J11 w10e => ?_
      have o4 := (rI_st J.1 (p := 4) (j := x6.toInt.toNat) rfl (by omega) w10e).1
      refine aw_step (f1 := (53, [some (.ref 3), some (.int a), some (.int b), some (.int r), some (.int c), some (.int x6)], [(.ref 3)])) (w1 := w10) rfl rfl ?_
      refine s_gr 5 J11 56 rfl rfl rfl rfl rfl rfl ?_
      refine aw_step (f1 := (58, [some (.ref 3), some (.int a), some (.int b), some (.int r), some (.int c), some (.int x6)], [(.int x6), (.ref 5)])) (w1 := w10) rfl rfl ?_
      refine aw_step (f1 := (59, [some (.ref 3), some (.int a), some (.int b), some (.int r), some (.int c), some (.int x6)], [(.int r), (.int x6), (.ref 5)])) (w1 := w10) rfl rfl ?_
      refine s_is J11 60 rfl rfl rfl rfl (by omega) (by omega) (by omega) (by omega) fun w12 J13 w12e => ?_
      have o5 := (rI_st J11.1 (p := 5) (j := x6.toInt.toNat) rfl (by omega) w12e).1
      refine aw_step (f1 := (61, [some (.ref 3), some (.int a), some (.int b), some (.int r), some (.int c), some (.int x6)], [(.ref 3)])) (w1 := w12) rfl rfl ?_
      refine s_gr 6 J13 64 rfl rfl rfl rfl rfl rfl ?_
      refine aw_step (f1 := (66, [some (.ref 3), some (.int a), some (.int b), some (.int r), some (.int c), some (.int x6)], [(.int x6), (.ref 6)])) (w1 := w12) rfl rfl ?_
      refine aw_step (f1 := (68, [some (.ref 3), some (.int a), some (.int b), some (.int r), some (.int c), some (.int x6)], [(.int c), (.int x6), (.ref 6)])) (w1 := w12) rfl rfl ?_
      refine s_is J13 69 rfl rfl rfl rfl (by omega) (by omega) (by omega) (by omega) fun w14 J15 w14e => ?_
      have o6 := (rI_st J13.1 (p := 6) (j := x6.toInt.toNat) rfl (by omega) w14e).1
      refine aw_step (f1 := (72, [some (.ref 3), some (.int a), some (.int b), some (.int r), some (.int (c + Int32.ofInt 1)), some (.int x6)], [])) (w1 := w14) rfl rfl ?_
      obtain ⟨x16, x16e⟩ : ∃ z, z = (c + Int32.ofInt 1) := ⟨_, rfl⟩
      have x16t : x16.toInt = c.toInt + (1) := by rw [x16e]; exact n_add (y := Int32.ofInt (1)) (by show _ ≤ _ + (1 : Int); omega) (by show _ + (1 : Int) ≤ _; omega)
      rw [← x16e]
      refine aw_step (f1 := (23, [some (.ref 3), some (.int a), some (.int b), some (.int r), some (.int x16), some (.int x6)], [])) (w1 := w14) rfl rfl ?_
      have oo := ((o4.sub (qs := [4, 5, 6]) (by decide)).trans (o5.sub (by decide))).trans (o6.sub (by decide))
      exact ih w14 x16 _ (by omega) (by omega) (by omega) J15 (by rw [oo.fIe (by decide)]; exact e0) (by rw [oo.fIe (by decide)]; exact e1)
theorem q_mpO {d : Nat} {w00 : am_W} (a b : Int32) (ha : 1 ≤ a.toInt ∧ a.toInt ≤ 6) (hb : 1 ≤ b.toInt ∧ b.toInt ≤ 6) : ∀ (m : Nat) (w : am_W) (r : Int32) (o4x o5x : Option Value), (a.toInt - r.toInt).toNat < m → 0 ≤ r.toInt → r.toInt ≤ a.toInt → ab_J ab_TT ab_sets ab_WR2 w00 w → fI w 3 0 = a.toInt → fI w 3 1 = b.toInt → aw none (d + 4) 34 (fun r w1 => r = none ∧ ab_J ab_TT ab_sets ab_WR2 w00 w1 ∧ fI w1 3 0 = a.toInt ∧ fI w1 3 1 = b.toInt) (12, [some (.ref 3), some (.int a), some (.int b), some (.int r), o4x, o5x], []) w := by
  intro m
  induction m with
  | zero => intro w r o4x o5x p; omega
  | succ m ih =>
    intro w r o4x o5x p1 p2 p3 J e0 e1
    refine aw_step (f1 := (13, [some (.ref 3), some (.int a), some (.int b), some (.int r), o4x, o5x], [(.int r)])) (w1 := w) rfl rfl ?_
    refine aw_step (f1 := (14, [some (.ref 3), some (.int a), some (.int b), some (.int r), o4x, o5x], [(.ref 3), (.int r)])) (w1 := w) rfl rfl ?_
    refine s_gi J 17 rfl rfl rfl rfl rfl rfl fun x1 x1a x1b x1f => ?_
    have hr0 := fI_of x1f
    refine s_ic 81 20 rfl rfl rfl (fun (h2 : x1.toInt ≤ r.toInt) => ?_) (fun (h2 : ¬ (x1.toInt ≤ r.toInt)) => ?_)
    · --
      refine aw_step (f1 := (82, [some (.ref 3), some (.int a), some (.int b), some (.int r), o4x, o5x], [(.ref 3)])) (w1 := w) rfl rfl ?_
      refine s_cv (z := 36) (p := 3) (as := []) (st1 := []) J 85 rfl rfl rfl rfl rfl rfl rfl rfl (Nat.le_of_ble_eq_true rfl) (Nat.le_of_ble_eq_true rfl) (q_settle J.1) ?_
      rintro _ w3 ⟨rfl, J4c, w3p⟩
      have J4 := J.trans J4c
      refine ⟨am_len2 J J4c, ?_⟩
      show aw none _ 34 _ (85, [some (.ref 3), some (.int a), some (.int b), some (.int r), o4x, o5x], []) w3
      refine aw_ret (v := none) rfl rfl ?_
      exact ⟨rfl, J4, by rw [w3p.1]; exact e0, by rw [w3p.2]; exact e1⟩
    · --
      refine s_i (pc1 := 21) (ls1 := [some (.ref 3), some (.int a), some (.int b), some (.int r), o4x, o5x]) (st1 := []) rfl rfl fun x5 e6 => ?_
      have e6t : x5.toInt = 0 := by rw [e6]; rfl
      refine aw_step (f1 := (23, [some (.ref 3), some (.int a), some (.int b), some (.int r), some (.int x5), o5x], [])) (w1 := w) rfl rfl ?_
      refine q_mpI a b r ha hb ⟨by omega, by omega⟩ (fun wq cq oq Jq f0 f1 => ?_) 7 w x5 _ (by omega) (by omega) (by omega) J e0 e1
      refine aw_step (f1 := (78, [some (.ref 3), some (.int a), some (.int b), some (.int (r + Int32.ofInt 1)), some (.int cq), oq], [])) (w1 := wq) rfl rfl ?_
      obtain ⟨zx1, zx1e⟩ : ∃ z, z = (r + Int32.ofInt 1) := ⟨_, rfl⟩
      have zx1t : zx1.toInt = r.toInt + (1) := by rw [zx1e]; exact n_add (y := Int32.ofInt (1)) (by show _ ≤ _ + (1 : Int); omega) (by show _ + (1 : Int) ≤ _; omega)
      rw [← zx1e]
      refine aw_step (f1 := (12, [some (.ref 3), some (.int a), some (.int b), some (.int zx1), some (.int cq), oq], [])) (w1 := wq) rfl rfl ?_
      exact ih wq zx1 _ _ (by omega) (by omega) (by omega) Jq f0 f1
theorem q_makePlain {d : Nat} {w : am_W} (a b : Int32) (ha : 1 ≤ a.toInt ∧ a.toInt ≤ 6) (hb : 1 ≤ b.toInt ∧ b.toInt ≤ 6) (I : ab_inv ab_TT ab_sets w) : aw none (d + 4) 34 (fun r w1 => r = none ∧ ab_J ab_TT ab_sets ab_WR2 w w1 ∧ fI w1 3 0 = a.toInt ∧ fI w1 3 1 = b.toInt) (0, am_entry 34 [.ref 3, .int a, .int b], []) w := by
  have J : ab_J ab_TT ab_sets ab_WR2 w w := ⟨I, ab_fr.rf⟩
  show aw none (d + 4) 34 _ (0, [some (.ref 3), some (.int a), some (.int b), none, none, none], []) w
  refine aw_step (f1 := (1, [some (.ref 3), some (.int a), some (.int b), none, none, none], [(.ref 3)])) (w1 := w) rfl rfl ?_
  refine aw_step (f1 := (2, [some (.ref 3), some (.int a), some (.int b), none, none, none], [(.int a), (.ref 3)])) (w1 := w) rfl rfl ?_
  refine s_pi J 5 rfl rfl rfl rfl rfl rfl rfl (by omega) (by omega) fun w1 J2 w1e => ?_
  --
  refine aw_step (f1 := (6, [some (.ref 3), some (.int a), some (.int b), none, none, none], [(.ref 3)])) (w1 := w1) rfl rfl ?_
  refine aw_step (f1 := (7, [some (.ref 3), some (.int a), some (.int b), none, none, none], [(.int b), (.ref 3)])) (w1 := w1) rfl rfl ?_
  refine s_pi J2 10 rfl rfl rfl rfl rfl rfl rfl (by omega) (by omega) fun w3 J4 w3e => ?_
  refine s_i (pc1 := 11) (ls1 := [some (.ref 3), some (.int a), some (.int b), none, none, none]) (st1 := []) rfl rfl fun x5 e6 => ?_
  have e6t : x5.toInt = 0 := by rw [e6]; rfl
  refine aw_step (f1 := (12, [some (.ref 3), some (.int a), some (.int b), some (.int x5), none, none], [])) (w1 := w3) rfl rfl ?_
  have f1 := fv_st J.1 (p := 3) (kf := 0) rfl (by decide) w1e
  have f2 := fv_st J2.1 (p := 3) (kf := 1) rfl (by decide) w3e
  exact q_mpO a b ha hb 7 w3 x5 _ _ (by omega) (by omega) (by omega) J4 (by rw [fI_eq (f2.2.2 0 (by decide)), fI_of f1.2.1]) (by rw [fI_of f2.2.1])
theorem c_land {d : Nat} {w : am_W} (a b : Int32) (I : ab_inv ab_TT ab_sets w) : aw none (d + 5) 60 (QLn w a.toInt b.toInt) (0, am_entry 60 [.ref 0, .int a, .int b], []) w := by
  have J : ab_J ab_TT ab_sets ab_WR2 w w := ⟨I, ab_fr.rf⟩
  show aw none (d + 5) 60 _ (0, [some (.ref 0), some (.int a), some (.int b)], []) w
  refine aw_step (f1 := (1, [some (.ref 0), some (.int a), some (.int b)], [(.int a)])) (w1 := w) rfl rfl ?_
  refine s_i (pc1 := 2) (ls1 := [some (.ref 0), some (.int a), some (.int b)]) (st1 := [(.int a)]) rfl rfl fun x1 e2 => ?_
  have e2t : x1.toInt = 1 := by rw [e2]; rfl
  refine s_i (pc1 := 4) (ls1 := [some (.ref 0), some (.int a), some (.int b)]) (st1 := [(.int x1), (.int a)]) rfl rfl fun x3 e4 => ?_
  have e4t : x3.toInt = 6 := by rw [e4]; rfl
  refine s_cs (z := 102) (as := [(.int a), (.int x1), (.int x3)]) (st1 := []) 7 rfl rfl rfl rfl rfl rfl (Nat.le_of_ble_eq_true rfl) (Nat.le_of_ble_eq_true rfl) (Nat.le_of_ble_eq_true rfl) (q_within a x1 x3) ?_
  rintro _ _ ⟨rfl, x5, rfl, x5t⟩
  refine ⟨rfl, ?_⟩
  show aw none _ 60 _ (7, [some (.ref 0), some (.int a), some (.int b)], [(.int x5)]) w
  refine s_if 20 10 rfl rfl rfl (fun (h6 : x5.toInt = 0) => ?_) (fun (h6 : ¬ (x5.toInt = 0)) => ?_)
  · --
    refine s_i (pc1 := 22) (ls1 := [some (.ref 0), some (.int a), some (.int b)]) (st1 := []) rfl rfl fun x7 e8 => ?_
    have e8t : x7.toInt = -2 := by rw [e8]; rfl
    refine aw_ret (v := some (.int x7)) rfl rfl ?_
    exact ⟨J, x7, rfl, by unfold lnV; rw [if_neg (by omega)]; omega⟩
  · --
    refine aw_step (f1 := (11, [some (.ref 0), some (.int a), some (.int b)], [(.int b)])) (w1 := w) rfl rfl ?_
    refine s_i (pc1 := 12) (ls1 := [some (.ref 0), some (.int a), some (.int b)]) (st1 := [(.int b)]) rfl rfl fun x9 e10 => ?_
    have e10t : x9.toInt = 1 := by rw [e10]; rfl
    refine s_i (pc1 := 14) (ls1 := [some (.ref 0), some (.int a), some (.int b)]) (st1 := [(.int x9), (.int b)]) rfl rfl fun x11 e12 => ?_
    have e12t : x11.toInt = 6 := by rw [e12]; rfl
    refine s_cs (z := 102) (as := [(.int b), (.int x9), (.int x11)]) (st1 := []) 17 rfl rfl rfl rfl rfl rfl (Nat.le_of_ble_eq_true rfl) (Nat.le_of_ble_eq_true rfl) (Nat.le_of_ble_eq_true rfl) (q_within b x9 x11) ?_
    rintro _ _ ⟨rfl, x13, rfl, x13t⟩
    refine ⟨rfl, ?_⟩
    show aw none _ 60 _ (17, [some (.ref 0), some (.int a), some (.int b)], [(.int x13)]) w
    refine s_if 23 20 rfl rfl rfl (fun (h14 : ¬ x13.toInt = 0) => ?_) (fun (h14 : ¬ (¬ x13.toInt = 0)) => ?_)
    · --
      refine aw_step (f1 := (24, [some (.ref 0), some (.int a), some (.int b)], [(.ref 0)])) (w1 := w) rfl rfl ?_
      refine s_gr 3 J 27 rfl rfl rfl rfl rfl rfl ?_
      refine aw_step (f1 := (28, [some (.ref 0), some (.int a), some (.int b)], [(.int a), (.ref 3)])) (w1 := w) rfl rfl ?_
      refine aw_step (f1 := (29, [some (.ref 0), some (.int a), some (.int b)], [(.int b), (.int a), (.ref 3)])) (w1 := w) rfl rfl ?_
      refine s_cv (z := 34) (p := 3) (as := [(.int a), (.int b)]) (st1 := []) J 32 rfl rfl rfl rfl rfl rfl rfl rfl (Nat.le_of_ble_eq_true rfl) (Nat.le_of_ble_eq_true rfl) (q_makePlain a b ⟨by omega, by omega⟩ ⟨by omega, by omega⟩ J.1) ?_
      rintro _ w15 ⟨rfl, J16c, w15p⟩
      have J16 := J.trans J16c
      refine ⟨am_len2 J J16c, ?_⟩
      show aw none _ 60 _ (32, [some (.ref 0), some (.int a), some (.int b)], []) w15
      refine aw_step (f1 := (33, [some (.ref 0), some (.int a), some (.int b)], [(.ref 0)])) (w1 := w15) rfl rfl ?_
      refine s_gr 3 J16 36 rfl rfl rfl rfl rfl rfl ?_
      refine s_cv (z := 38) (p := 3) (as := []) (st1 := []) J16 39 rfl rfl rfl rfl rfl rfl rfl rfl (Nat.le_of_ble_eq_true rfl) (Nat.le_of_ble_eq_true rfl) (q_size J16.1) ?_
      rintro _ _ ⟨rfl, x17, rfl, x17t⟩
      refine ⟨rfl, ?_⟩
      show aw none _ 60 _ (39, [some (.ref 0), some (.int a), some (.int b)], [(.int x17)]) w15
      refine aw_ret (v := some (.int x17)) rfl rfl ?_
      exact ⟨J16, x17, rfl, by unfold lnV; rw [if_pos ⟨⟨by omega, by omega⟩, by omega, by omega⟩, x17t]; unfold szC; rw [w15p.1, w15p.2]⟩
    · --
      refine s_i (pc1 := 22) (ls1 := [some (.ref 0), some (.int a), some (.int b)]) (st1 := []) rfl rfl fun x18 e19 => ?_
      have e19t : x18.toInt = -2 := by rw [e19]; rfl
      refine aw_ret (v := some (.int x18)) rfl rfl ?_
      exact ⟨J, x18, rfl, by unfold lnV; rw [if_neg (by omega)]; omega⟩
theorem q_spL {d : Nat} {w00 : am_W} (a b : Int32) : ∀ (m : Nat) (w : am_W) (i : Int32), (36 - i.toInt).toNat < m → 0 ≤ i.toInt → i.toInt ≤ 36 → ab_J ab_TT ab_sets ab_WR2 w00 w → fI w 65 0 = a.toInt → fI w 65 1 = b.toInt → aw none (d + 2) 111 (fun r w1 => r = none ∧ ab_J ab_TT ab_sets ab_WR2 w00 w1 ∧ fI w1 65 0 = a.toInt ∧ fI w1 65 1 = b.toInt) (12, [some (.ref 65), some (.int a), some (.int b), some (.int i)], []) w := by
  intro m
  induction m with
  | zero => intro w i p; omega
  | succ m ih =>
    intro w i p1 p2 p3 J e0 e1
    refine aw_step (f1 := (13, [some (.ref 65), some (.int a), some (.int b), some (.int i)], [(.int i)])) (w1 := w) rfl rfl ?_
    refine s_i (pc1 := 15) (ls1 := [some (.ref 65), some (.int a), some (.int b), some (.int i)]) (st1 := [(.int i)]) rfl rfl fun x1 e2 => ?_
    have e2t : x1.toInt = 36 := by rw [e2]; rfl
    refine s_ic 32 18 rfl rfl rfl (fun (h3 : x1.toInt ≤ i.toInt) => ?_) (fun (h3 : ¬ (x1.toInt ≤ i.toInt)) => ?_)
    · --
      refine aw_step (f1 := (33, [some (.ref 65), some (.int a), some (.int b), some (.int i)], [(.ref 65)])) (w1 := w) rfl rfl ?_
      refine s_i (pc1 := 34) (ls1 := [some (.ref 65), some (.int a), some (.int b), some (.int i)]) (st1 := [(.ref 65)]) rfl rfl fun x4 e5 => ?_
      have e5t : x4.toInt = 0 := by rw [e5]; rfl
      refine s_cv (z := 112) (p := 65) (as := [(.int x4)]) (st1 := []) J 37 rfl rfl rfl rfl rfl rfl rfl rfl (Nat.le_of_ble_eq_true rfl) (Nat.le_of_ble_eq_true rfl) (q_forgetAll x4 ⟨by omega, by omega⟩ J.1) ?_
      rintro _ w6 ⟨rfl, J7c, w6p⟩
      have J7 := J.trans J7c
      refine ⟨am_len2 J J7c, ?_⟩
      show aw none _ 111 _ (37, [some (.ref 65), some (.int a), some (.int b), some (.int i)], []) w6
      refine aw_ret (v := none) rfl rfl ?_
      exact ⟨rfl, J7, by rw [w6p.1]; exact e0, by rw [w6p.2]; exact e1⟩
    · --
      refine aw_step (f1 := (19, [some (.ref 65), some (.int a), some (.int b), some (.int i)], [(.ref 65)])) (w1 := w) rfl rfl ?_
      refine s_gr 66 J 22 rfl rfl rfl rfl rfl rfl ?_
      refine aw_step (f1 := (23, [some (.ref 65), some (.int a), some (.int b), some (.int i)], [(.int i), (.ref 66)])) (w1 := w) rfl rfl ?_
      refine s_i (pc1 := 25) (ls1 := [some (.ref 65), some (.int a), some (.int b), some (.int i)]) (st1 := [(.int i), (.ref 66)]) rfl rfl fun x8 e9 => ?_
      have e9t : x8.toInt = 46 := by rw [e9]; rfl
      refine s_is J 26 rfl rfl rfl rfl (by omega) (by omega) (by omega) (by omega) fun w10 J11 w10e => ?_
      refine aw_step (f1 := (29, [some (.ref 65), some (.int a), some (.int b), some (.int (i + Int32.ofInt 1))], [])) (w1 := w10) rfl rfl ?_
      obtain ⟨x12, x12e⟩ : ∃ z, z = (i + Int32.ofInt 1) := ⟨_, rfl⟩
      have x12t : x12.toInt = i.toInt + (1) := by rw [x12e]; exact n_add (y := Int32.ofInt (1)) (by show _ ≤ _ + (1 : Int); omega) (by show _ + (1 : Int) ≤ _; omega)
      rw [← x12e]
      refine aw_step (f1 := (12, [some (.ref 65), some (.int a), some (.int b), some (.int x12)], [])) (w1 := w10) rfl rfl ?_
      have so := rI_st J.1 (p := 66) (j := i.toInt.toNat) rfl (by omega) w10e
      exact ih w10 x12 (by omega) (by omega) (by omega) J11 (by rw [so.1.fIe (by decide)]; exact e0) (by rw [so.1.fIe (by decide)]; exact e1)
theorem q_spread {d : Nat} {w : am_W} (a b : Int32) (ha : 1 ≤ a.toInt ∧ a.toInt ≤ 6) (hb : 1 ≤ b.toInt ∧ b.toInt ≤ 6) (I : ab_inv ab_TT ab_sets w) : aw none (d + 2) 111 (fun r w1 => r = none ∧ ab_J ab_TT ab_sets ab_WR2 w w1 ∧ fI w1 65 0 = a.toInt ∧ fI w1 65 1 = b.toInt) (0, am_entry 111 [.ref 65, .int a, .int b], []) w := by
  have J : ab_J ab_TT ab_sets ab_WR2 w w := ⟨I, ab_fr.rf⟩
  show aw none (d + 2) 111 _ (0, [some (.ref 65), some (.int a), some (.int b), none], []) w
  refine aw_step (f1 := (1, [some (.ref 65), some (.int a), some (.int b), none], [(.ref 65)])) (w1 := w) rfl rfl ?_
  refine aw_step (f1 := (2, [some (.ref 65), some (.int a), some (.int b), none], [(.int a), (.ref 65)])) (w1 := w) rfl rfl ?_
  refine s_pi J 5 rfl rfl rfl rfl rfl rfl rfl (by omega) (by omega) fun w1 J2 w1e => ?_
  --
  refine aw_step (f1 := (6, [some (.ref 65), some (.int a), some (.int b), none], [(.ref 65)])) (w1 := w1) rfl rfl ?_
  refine aw_step (f1 := (7, [some (.ref 65), some (.int a), some (.int b), none], [(.int b), (.ref 65)])) (w1 := w1) rfl rfl ?_
  refine s_pi J2 10 rfl rfl rfl rfl rfl rfl rfl (by omega) (by omega) fun w3 J4 w3e => ?_
  refine s_i (pc1 := 11) (ls1 := [some (.ref 65), some (.int a), some (.int b), none]) (st1 := []) rfl rfl fun x5 e6 => ?_
  have e6t : x5.toInt = 0 := by rw [e6]; rfl
  refine aw_step (f1 := (12, [some (.ref 65), some (.int a), some (.int b), some (.int x5)], [])) (w1 := w3) rfl rfl ?_
  have f1 := fv_st J.1 (p := 65) (kf := 0) rfl (by decide) w1e
  have f2 := fv_st J2.1 (p := 65) (kf := 1) rfl (by decide) w3e
  exact q_spL a b 37 w3 x5 (by omega) (by omega) (by omega) J4 (by rw [fI_eq (f2.2.2 0 (by decide)), fI_of f1.2.1]) (by rw [fI_of f2.2.1])
theorem q_land {d : Nat} {w : am_W} (a b : Int32) (I : ab_inv ab_TT ab_sets w) : aw none (d + 3) 118 (QLn w a.toInt b.toInt) (0, am_entry 118 [.ref 65, .int a, .int b], []) w := by
  have J : ab_J ab_TT ab_sets ab_WR2 w w := ⟨I, ab_fr.rf⟩
  show aw none (d + 3) 118 _ (0, [some (.ref 65), some (.int a), some (.int b)], []) w
  refine aw_step (f1 := (1, [some (.ref 65), some (.int a), some (.int b)], [(.int a)])) (w1 := w) rfl rfl ?_
  refine s_l (pc1 := 2) (ls1 := [some (.ref 65), some (.int a), some (.int b)]) (st1 := []) rfl rfl fun y1 e2 => ?_
  have e2t : y1.toInt = a.toInt := by rw [e2]; exact Int32.toInt_toInt64 a
  refine s_l (pc1 := 3) (ls1 := [some (.ref 65), some (.int a), some (.int b)]) (st1 := [(.long y1)]) rfl rfl fun y3 e4 => ?_
  have e4t : y3.toInt = 1 := by rw [e4]; rfl
  refine s_l (pc1 := 6) (ls1 := [some (.ref 65), some (.int a), some (.int b)]) (st1 := [(.long y3), (.long y1)]) rfl rfl fun y5 e6 => ?_
  have e6t : y5.toInt = 6 := by rw [e6]; rfl
  refine s_cs (z := 108) (as := [(.long y1), (.long y3), (.long y5)]) (st1 := []) 9 rfl rfl rfl rfl rfl rfl (Nat.le_of_ble_eq_true rfl) (Nat.le_of_ble_eq_true rfl) (Nat.le_of_ble_eq_true rfl) (q_in2 y1 y3 y5) ?_
  rintro _ _ ⟨rfl, x7, rfl, x7t⟩
  refine ⟨rfl, ?_⟩
  show aw none _ 118 _ (9, [some (.ref 65), some (.int a), some (.int b)], [(.int x7)]) w
  refine s_if 24 12 rfl rfl rfl (fun (h8 : x7.toInt = 0) => ?_) (fun (h8 : ¬ (x7.toInt = 0)) => ?_)
  · --
    refine s_i (pc1 := 26) (ls1 := [some (.ref 65), some (.int a), some (.int b)]) (st1 := []) rfl rfl fun x9 e10 => ?_
    have e10t : x9.toInt = -2 := by rw [e10]; rfl
    refine aw_ret (v := some (.int x9)) rfl rfl ?_
    exact ⟨J, x9, rfl, by unfold lnV; rw [if_neg (by omega)]; omega⟩
  · --
    refine aw_step (f1 := (13, [some (.ref 65), some (.int a), some (.int b)], [(.int b)])) (w1 := w) rfl rfl ?_
    refine s_l (pc1 := 14) (ls1 := [some (.ref 65), some (.int a), some (.int b)]) (st1 := []) rfl rfl fun y11 e12 => ?_
    have e12t : y11.toInt = b.toInt := by rw [e12]; exact Int32.toInt_toInt64 b
    refine s_l (pc1 := 15) (ls1 := [some (.ref 65), some (.int a), some (.int b)]) (st1 := [(.long y11)]) rfl rfl fun y13 e14 => ?_
    have e14t : y13.toInt = 1 := by rw [e14]; rfl
    refine s_l (pc1 := 18) (ls1 := [some (.ref 65), some (.int a), some (.int b)]) (st1 := [(.long y13), (.long y11)]) rfl rfl fun y15 e16 => ?_
    have e16t : y15.toInt = 6 := by rw [e16]; rfl
    refine s_cs (z := 108) (as := [(.long y11), (.long y13), (.long y15)]) (st1 := []) 21 rfl rfl rfl rfl rfl rfl (Nat.le_of_ble_eq_true rfl) (Nat.le_of_ble_eq_true rfl) (Nat.le_of_ble_eq_true rfl) (q_in2 y11 y13 y15) ?_
    rintro _ _ ⟨rfl, x17, rfl, x17t⟩
    refine ⟨rfl, ?_⟩
    show aw none _ 118 _ (21, [some (.ref 65), some (.int a), some (.int b)], [(.int x17)]) w
    refine s_if 27 24 rfl rfl rfl (fun (h18 : ¬ x17.toInt = 0) => ?_) (fun (h18 : ¬ (¬ x17.toInt = 0)) => ?_)
    · --
      refine aw_step (f1 := (28, [some (.ref 65), some (.int a), some (.int b)], [(.ref 65)])) (w1 := w) rfl rfl ?_
      refine aw_step (f1 := (29, [some (.ref 65), some (.int a), some (.int b)], [(.int a), (.ref 65)])) (w1 := w) rfl rfl ?_
      refine aw_step (f1 := (30, [some (.ref 65), some (.int a), some (.int b)], [(.int b), (.int a), (.ref 65)])) (w1 := w) rfl rfl ?_
      refine s_cv (z := 111) (p := 65) (as := [(.int a), (.int b)]) (st1 := []) J 33 rfl rfl rfl rfl rfl rfl rfl rfl (Nat.le_of_ble_eq_true rfl) (Nat.le_of_ble_eq_true rfl) (q_spread a b ⟨by omega, by omega⟩ ⟨by omega, by omega⟩ J.1) ?_
      rintro _ w19 ⟨rfl, J20c, w19p⟩
      have J20 := J.trans J20c
      refine ⟨am_len2 J J20c, ?_⟩
      show aw none _ 118 _ (33, [some (.ref 65), some (.int a), some (.int b)], []) w19
      refine aw_step (f1 := (34, [some (.ref 65), some (.int a), some (.int b)], [(.ref 65)])) (w1 := w19) rfl rfl ?_
      refine s_cv (z := 113) (p := 65) (as := []) (st1 := []) J20 37 rfl rfl rfl rfl rfl rfl rfl rfl (Nat.le_of_ble_eq_true rfl) (Nat.le_of_ble_eq_true rfl) (q_cells J20.1) ?_
      rintro _ _ ⟨rfl, x21, rfl, x21t⟩
      refine ⟨rfl, ?_⟩
      show aw none _ 118 _ (37, [some (.ref 65), some (.int a), some (.int b)], [(.int x21)]) w19
      have x21s := szM_in J20.1
      refine aw_ret (v := some (.int x21)) rfl rfl ?_
      exact ⟨J20, x21, rfl, by unfold lnV; rw [if_pos ⟨⟨by omega, by omega⟩, by omega, by omega⟩, x21t]; unfold szM; rw [w19p.1, w19p.2]⟩
    · --
      refine s_i (pc1 := 26) (ls1 := [some (.ref 65), some (.int a), some (.int b)]) (st1 := []) rfl rfl fun x22 e23 => ?_
      have e23t : x22.toInt = -2 := by rw [e23]; rfl
      refine aw_ret (v := some (.int x22)) rfl rfl ?_
      exact ⟨J, x22, rfl, by unfold lnV; rw [if_neg (by omega)]; omega⟩
