/-! ===== images of the class ===== -/
theorem cp6 {d z : Nat} {w : am_W} {f : am_F} (h : aw none d z (fun r w1 => r = none ∧ ab_J ab_TT ab_sets ab_WR2 w w1) f w) : aw none d z (fun r w1 => r = none ∧ ab_J ab_TT ab_sets ab_WR6 w w1 ∧ ∀ j, rI w1 15 j = rI w 15 j) f w := h.mono fun r w1 q => ⟨q.1, J26_of q.2, fun j => by unfold rI; rw [fr_row q.2.2 (by decide) (fun k h => by cases h)]⟩
noncomputable def imP (n b : Int) (r r1 : Nat → Int) : Prop := (b = -2 ∧ (n < 0 ∨ 1 < n) ∧ ∀ j, r1 j = r j) ∨ (b = 1 ∧ (0 ≤ n ∧ n ≤ 1) ∧ r1 n.toNat = 1 ∧ ∀ j, j ≠ n.toNat → r1 j = r j)
noncomputable def rsP (n b : Int) (r : Nat → Int) : Prop := (b = -2 ∧ (n < 0 ∨ 1 < n)) ∨ (b = -3 ∧ (0 ≤ n ∧ n ≤ 1) ∧ r n.toNat = 0) ∨ (b = 1 ∧ (0 ≤ n ∧ n ≤ 1) ∧ r n.toNat ≠ 0)
theorem c_image {d : Nat} {w : am_W} (n : Int32) (I : ab_inv ab_TT ab_sets w) (k14 : K14 w) : aw none (d + 2) 93 (fun r w1 => ab_J ab_TT ab_sets ab_WR6 w w1 ∧ ∃ b : Int32, r = some (.int b) ∧ imP n.toInt b.toInt (rI w 15) (rI w1 15)) (0, am_entry 93 [.ref 0, .int n], []) w := by
  have J : ab_J ab_TT ab_sets ab_WR6 w w := ⟨I, ab_fr.rf⟩
  show aw none (d + 2) 93 _ (0, [some (.ref 0), some (.int n)], []) w
  refine aw_step (f1 := (1, [some (.ref 0), some (.int n)], [(.int n)])) (w1 := w) rfl rfl ?_
  refine s_i (pc1 := 2) (ls1 := [some (.ref 0), some (.int n)]) (st1 := [(.int n)]) rfl rfl fun x1 e2 => ?_
  have e2t : x1.toInt = 0 := by rw [e2]; rfl
  refine s_i (pc1 := 3) (ls1 := [some (.ref 0), some (.int n)]) (st1 := [(.int x1), (.int n)]) rfl rfl fun x3 e4 => ?_
  have e4t : x3.toInt = 1 := by rw [e4]; rfl
  refine s_cs (z := 102) (as := [(.int n), (.int x1), (.int x3)]) (st1 := []) 6 rfl rfl rfl rfl rfl rfl (Nat.le_of_ble_eq_true rfl) (Nat.le_of_ble_eq_true rfl) (Nat.le_of_ble_eq_true rfl) (q_within n x1 x3) ?_
  rintro _ _ ⟨rfl, x5, rfl, x5t⟩
  refine ⟨rfl, ?_⟩
  show aw none _ 93 _ (6, [some (.ref 0), some (.int n)], [(.int x5)]) w
  refine s_if 12 9 rfl rfl rfl (fun (h6 : ¬ x5.toInt = 0) => ?_) (fun (h6 : ¬ (¬ x5.toInt = 0)) => ?_)
  · --
    refine aw_step (f1 := (13, [some (.ref 0), some (.int n)], [(.ref 0)])) (w1 := w) rfl rfl ?_
    refine s_gr 14 J 16 rfl rfl rfl rfl rfl rfl ?_
    refine aw_step (f1 := (17, [some (.ref 0), some (.int n)], [(.int n), (.ref 14)])) (w1 := w) rfl rfl ?_
    rcases (show n.toInt = 0 ∨ n.toInt = 1 by omega) with hq | hq
    · refine s_aa (q := 43) 18 rfl rfl k14 (by omega) (by rw [hq]; rfl) ?_
      refine aw_step (f1 := (19, [some (.ref 0), some (.int n)], [(.ref 0), (.ref 43)])) (w1 := w) rfl rfl ?_
      refine s_gr 3 J 22 rfl rfl rfl rfl rfl rfl ?_
      refine s_cv (z := 37) (p := 43) (as := [(.ref 3)]) (st1 := []) J 25 rfl rfl rfl rfl rfl rfl rfl rfl (Nat.le_of_ble_eq_true rfl) (Nat.le_of_ble_eq_true rfl) (cp6 ((ok_v (as := [.ref 43, .ref 3]) ks61 (by decide) J.1 (And.intro vF_r (And.intro vF_r trivial))).deep (by omega))) ?_
      rintro _ w7 ⟨rfl, J8c, w7z⟩
      have J8 := J.trans J8c
      refine ⟨am_len2 J J8c, ?_⟩
      show aw none _ 93 _ (25, [some (.ref 0), some (.int n)], []) w7
      refine aw_step (f1 := (26, [some (.ref 0), some (.int n)], [(.ref 0)])) (w1 := w7) rfl rfl ?_
      refine s_gr 15 J8 29 rfl rfl rfl rfl rfl rfl ?_
      refine aw_step (f1 := (30, [some (.ref 0), some (.int n)], [(.int n), (.ref 15)])) (w1 := w7) rfl rfl ?_
      refine s_i (pc1 := 31) (ls1 := [some (.ref 0), some (.int n)]) (st1 := [(.int n), (.ref 15)]) rfl rfl fun x9 e10 => ?_
      have e10t : x9.toInt = 1 := by rw [e10]; rfl
      refine s_bs J8 32 rfl rfl rfl rfl (by omega) (by omega) (by omega) fun w11 J12 w11e => ?_
      refine s_i (pc1 := 33) (ls1 := [some (.ref 0), some (.int n)]) (st1 := []) rfl rfl fun x13 e14 => ?_
      have e14t : x13.toInt = 1 := by rw [e14]; rfl
      refine aw_ret (v := some (.int x13)) rfl rfl ?_
      have so := rZ_st J8.1 (p := 15) (j := n.toInt.toNat) rfl (by omega) w11e
      exact ⟨J12, x13, rfl, Or.inr ⟨by omega, ⟨by omega, by omega⟩, by rw [so.2.1]; omega, fun j hj => by rw [so.2.2 j hj, w7z j]⟩⟩
    · refine s_aa (q := 54) 18 rfl rfl k14 (by omega) (by rw [hq]; rfl) ?_
      refine aw_step (f1 := (19, [some (.ref 0), some (.int n)], [(.ref 0), (.ref 54)])) (w1 := w) rfl rfl ?_
      refine s_gr 3 J 22 rfl rfl rfl rfl rfl rfl ?_
      refine s_cv (z := 37) (p := 54) (as := [(.ref 3)]) (st1 := []) J 25 rfl rfl rfl rfl rfl rfl rfl rfl (Nat.le_of_ble_eq_true rfl) (Nat.le_of_ble_eq_true rfl) (cp6 ((ok_v (as := [.ref 54, .ref 3]) ks62 (by decide) J.1 (And.intro vF_r (And.intro vF_r trivial))).deep (by omega))) ?_
      rintro _ w15 ⟨rfl, J16c, w15z⟩
      have J16 := J.trans J16c
      refine ⟨am_len2 J J16c, ?_⟩
      show aw none _ 93 _ (25, [some (.ref 0), some (.int n)], []) w15
      refine aw_step (f1 := (26, [some (.ref 0), some (.int n)], [(.ref 0)])) (w1 := w15) rfl rfl ?_
      refine s_gr 15 J16 29 rfl rfl rfl rfl rfl rfl ?_
      refine aw_step (f1 := (30, [some (.ref 0), some (.int n)], [(.int n), (.ref 15)])) (w1 := w15) rfl rfl ?_
      refine s_i (pc1 := 31) (ls1 := [some (.ref 0), some (.int n)]) (st1 := [(.int n), (.ref 15)]) rfl rfl fun x17 e18 => ?_
      have e18t : x17.toInt = 1 := by rw [e18]; rfl
      refine s_bs J16 32 rfl rfl rfl rfl (by omega) (by omega) (by omega) fun w19 J20 w19e => ?_
      refine s_i (pc1 := 33) (ls1 := [some (.ref 0), some (.int n)]) (st1 := []) rfl rfl fun x21 e22 => ?_
      have e22t : x21.toInt = 1 := by rw [e22]; rfl
      refine aw_ret (v := some (.int x21)) rfl rfl ?_
      have so := rZ_st J16.1 (p := 15) (j := n.toInt.toNat) rfl (by omega) w19e
      exact ⟨J20, x21, rfl, Or.inr ⟨by omega, ⟨by omega, by omega⟩, by rw [so.2.1]; omega, fun j hj => by rw [so.2.2 j hj, w15z j]⟩⟩
  · --
    refine s_i (pc1 := 11) (ls1 := [some (.ref 0), some (.int n)]) (st1 := []) rfl rfl fun x23 e24 => ?_
    have e24t : x23.toInt = -2 := by rw [e24]; rfl
    refine aw_ret (v := some (.int x23)) rfl rfl ?_
    exact ⟨J, x23, rfl, Or.inl ⟨by omega, by omega, fun j => rfl⟩⟩
theorem c_restore {d : Nat} {w : am_W} (n : Int32) (I : ab_inv ab_TT ab_sets w) (k14 : K14 w) : aw none (d + 2) 94 (fun r w1 => ab_J ab_TT ab_sets ab_WR2 w w1 ∧ ∃ b : Int32, r = some (.int b) ∧ rsP n.toInt b.toInt (rI w 15)) (0, am_entry 94 [.ref 0, .int n], []) w := by
  have J : ab_J ab_TT ab_sets ab_WR2 w w := ⟨I, ab_fr.rf⟩
  show aw none (d + 2) 94 _ (0, [some (.ref 0), some (.int n)], []) w
  refine aw_step (f1 := (1, [some (.ref 0), some (.int n)], [(.int n)])) (w1 := w) rfl rfl ?_
  refine s_i (pc1 := 2) (ls1 := [some (.ref 0), some (.int n)]) (st1 := [(.int n)]) rfl rfl fun x1 e2 => ?_
  have e2t : x1.toInt = 0 := by rw [e2]; rfl
  refine s_i (pc1 := 3) (ls1 := [some (.ref 0), some (.int n)]) (st1 := [(.int x1), (.int n)]) rfl rfl fun x3 e4 => ?_
  have e4t : x3.toInt = 1 := by rw [e4]; rfl
  refine s_cs (z := 102) (as := [(.int n), (.int x1), (.int x3)]) (st1 := []) 6 rfl rfl rfl rfl rfl rfl (Nat.le_of_ble_eq_true rfl) (Nat.le_of_ble_eq_true rfl) (Nat.le_of_ble_eq_true rfl) (q_within n x1 x3) ?_
  rintro _ _ ⟨rfl, x5, rfl, x5t⟩
  refine ⟨rfl, ?_⟩
  show aw none _ 94 _ (6, [some (.ref 0), some (.int n)], [(.int x5)]) w
  refine s_if 12 9 rfl rfl rfl (fun (h6 : ¬ x5.toInt = 0) => ?_) (fun (h6 : ¬ (¬ x5.toInt = 0)) => ?_)
  · --
    refine aw_step (f1 := (13, [some (.ref 0), some (.int n)], [(.ref 0)])) (w1 := w) rfl rfl ?_
    refine s_gr 15 J 16 rfl rfl rfl rfl rfl rfl ?_
    refine aw_step (f1 := (17, [some (.ref 0), some (.int n)], [(.int n), (.ref 15)])) (w1 := w) rfl rfl ?_
    refine s_ba J 18 rfl rfl rfl (by omega) (by omega) fun x7 x7a x7b x7f => ?_
    have hk := rI_of x7f
    refine s_if 24 21 rfl rfl rfl (fun (h8 : ¬ x7.toInt = 0) => ?_) (fun (h8 : ¬ (¬ x7.toInt = 0)) => ?_)
    · --
      refine aw_step (f1 := (25, [some (.ref 0), some (.int n)], [(.ref 0)])) (w1 := w) rfl rfl ?_
      refine s_gr 3 J 28 rfl rfl rfl rfl rfl rfl ?_
      refine aw_step (f1 := (29, [some (.ref 0), some (.int n)], [(.ref 0), (.ref 3)])) (w1 := w) rfl rfl ?_
      refine s_gr 14 J 32 rfl rfl rfl rfl rfl rfl ?_
      refine aw_step (f1 := (33, [some (.ref 0), some (.int n)], [(.int n), (.ref 14), (.ref 3)])) (w1 := w) rfl rfl ?_
      rcases (show n.toInt = 0 ∨ n.toInt = 1 by omega) with hq | hq
      · refine s_aa (q := 43) 34 rfl rfl k14 (by omega) (by rw [hq]; rfl) ?_
        refine s_cv (z := 37) (p := 3) (as := [(.ref 43)]) (st1 := []) J 37 rfl rfl rfl rfl rfl rfl rfl rfl (Nat.le_of_ble_eq_true rfl) (Nat.le_of_ble_eq_true rfl) ((ok_v (as := [.ref 3, .ref 43]) ks59 (by decide) J.1 (And.intro vF_r (And.intro vF_r trivial))).deep (by omega)) ?_
        rintro _ w9 ⟨rfl, J10c⟩
        have J10 := J.trans J10c
        refine ⟨am_len2 J J10c, ?_⟩
        show aw none _ 94 _ (37, [some (.ref 0), some (.int n)], []) w9
        refine s_i (pc1 := 38) (ls1 := [some (.ref 0), some (.int n)]) (st1 := []) rfl rfl fun x11 e12 => ?_
        have e12t : x11.toInt = 1 := by rw [e12]; rfl
        refine aw_ret (v := some (.int x11)) rfl rfl ?_
        exact ⟨J10, x11, rfl, Or.inr (Or.inr ⟨by omega, ⟨by omega, by omega⟩, by omega⟩)⟩
      · refine s_aa (q := 54) 34 rfl rfl k14 (by omega) (by rw [hq]; rfl) ?_
        refine s_cv (z := 37) (p := 3) (as := [(.ref 54)]) (st1 := []) J 37 rfl rfl rfl rfl rfl rfl rfl rfl (Nat.le_of_ble_eq_true rfl) (Nat.le_of_ble_eq_true rfl) ((ok_v (as := [.ref 3, .ref 54]) ks60 (by decide) J.1 (And.intro vF_r (And.intro vF_r trivial))).deep (by omega)) ?_
        rintro _ w13 ⟨rfl, J14c⟩
        have J14 := J.trans J14c
        refine ⟨am_len2 J J14c, ?_⟩
        show aw none _ 94 _ (37, [some (.ref 0), some (.int n)], []) w13
        refine s_i (pc1 := 38) (ls1 := [some (.ref 0), some (.int n)]) (st1 := []) rfl rfl fun x15 e16 => ?_
        have e16t : x15.toInt = 1 := by rw [e16]; rfl
        refine aw_ret (v := some (.int x15)) rfl rfl ?_
        exact ⟨J14, x15, rfl, Or.inr (Or.inr ⟨by omega, ⟨by omega, by omega⟩, by omega⟩)⟩
    · --
      refine s_i (pc1 := 23) (ls1 := [some (.ref 0), some (.int n)]) (st1 := []) rfl rfl fun x17 e18 => ?_
      have e18t : x17.toInt = -3 := by rw [e18]; rfl
      refine aw_ret (v := some (.int x17)) rfl rfl ?_
      first
        | exact ⟨J, x17, rfl, Or.inl ⟨by omega, by omega⟩⟩
        | exact ⟨J, x17, rfl, Or.inr (Or.inl ⟨by omega, ⟨by omega, by omega⟩, by omega⟩)⟩
  · --
    refine s_i (pc1 := 11) (ls1 := [some (.ref 0), some (.int n)]) (st1 := []) rfl rfl fun x19 e20 => ?_
    have e20t : x19.toInt = -2 := by rw [e20]; rfl
    refine aw_ret (v := some (.int x19)) rfl rfl ?_
    first
      | exact ⟨J, x19, rfl, Or.inl ⟨by omega, by omega⟩⟩
      | exact ⟨J, x19, rfl, Or.inr (Or.inl ⟨by omega, ⟨by omega, by omega⟩, by omega⟩)⟩
