/-! ===== images, exact ===== -/
noncomputable def ixP (n : Nat) (w w1 : am_W) : Prop := only (88 :: pS) w w1 ∧ am_fv w1 65 16 = am_fv w 65 16 ∧ (∀ j, j < 76 → fld w1 j = fld w j) ∧ (∀ j, j < 76 → rLi w1 87 (100 * n + j) = fld w j) ∧ (∀ i, (i < 100 * n ∨ 100 * n + 76 ≤ i) → rLi w1 87 i = rLi w 87 i) ∧ rI w1 88 n = 1 ∧ ∀ j, j ≠ n → rI w1 88 j = rI w 88 j
noncomputable def rxP (n : Nat) (w w1 : am_W) : Prop := only pS w w1 ∧ am_fv w1 65 16 = am_fv w 65 16 ∧ (∀ j, j < 76 → fld w1 j = rLi w 87 (100 * n + j)) ∧ (∀ j, j < 76 → rLi w1 87 (100 * n + j) = rLi w 87 (100 * n + j)) ∧ ∀ i, (i < 100 * n ∨ 100 * n + 76 ≤ i) → rLi w1 87 i = rLi w 87 i
theorem fld_e0 {w w1 : am_W} (O : only [88] w w1) (j : Nat) : fld w1 j = fld w j := fld_e (fun k _ _ _ _ _ _ _ _ _ => O.fv (by decide)) (fun q i a b => O.rIe (by simp only [List.mem_singleton]; omega)) j
theorem x_image {d : Nat} {w : am_W} (n : Int32) (I : ab_inv ab_TT ab_sets w) (ko : kOK w) : aw none (d + 3) 183 (fun r w1 => ab_inv ab_TT ab_sets w1 ∧ kOK w1 ∧ ∃ b : Int32, r = some (.int b) ∧ ((b.toInt = -2 ∧ (n.toInt < 0 ∨ 1 < n.toInt) ∧ w1 = w) ∨ (b.toInt = 1 ∧ (0 ≤ n.toInt ∧ n.toInt ≤ 1) ∧ ixP n.toInt.toNat w w1))) (0, am_entry 183 [.ref 65, .int n], []) w := by
  have J : ab_J ab_TT ab_sets ab_WR3 w w := ⟨I, ab_fr.rf⟩
  show aw none (d + 3) 183 _ (0, [some (.ref 65), some (.int n)], []) w
  refine aw_step (f1 := (1, [some (.ref 65), some (.int n)], [(.int n)])) (w1 := w) rfl rfl ?_
  refine s_l (pc1 := 2) (ls1 := [some (.ref 65), some (.int n)]) (st1 := []) rfl rfl fun y1 e2 => ?_
  have e2t : y1.toInt = n.toInt := by rw [e2]; exact Int32.toInt_toInt64 n
  refine s_l (pc1 := 3) (ls1 := [some (.ref 65), some (.int n)]) (st1 := [(.long y1)]) rfl rfl fun y3 e4 => ?_
  have e4t : y3.toInt = 0 := by rw [e4]; rfl
  refine s_l (pc1 := 4) (ls1 := [some (.ref 65), some (.int n)]) (st1 := [(.long y3), (.long y1)]) rfl rfl fun y5 e6 => ?_
  have e6t : y5.toInt = 1 := by rw [e6]; rfl
  refine s_cs (z := 108) (as := [(.long y1), (.long y3), (.long y5)]) (st1 := []) 7 rfl rfl rfl rfl rfl rfl (Nat.le_of_ble_eq_true rfl) (Nat.le_of_ble_eq_true rfl) (Nat.le_of_ble_eq_true rfl) (q_in2 y1 y3 y5) ?_
  rintro _ _ ⟨rfl, x7, rfl, x7t⟩
  refine ⟨rfl, ?_⟩
  show aw none _ 183 _ (7, [some (.ref 65), some (.int n)], [(.int x7)]) w
  refine s_if 13 10 rfl rfl rfl (fun (h8 : ¬ x7.toInt = 0) => ?_) (fun (h8 : ¬ (¬ x7.toInt = 0)) => ?_)
  · --
    --
    refine aw_step (f1 := (14, [some (.ref 65), some (.int n)], [(.ref 65)])) (w1 := w) rfl rfl ?_
    refine s_i (pc1 := 16) (ls1 := [some (.ref 65), some (.int n)]) (st1 := [(.ref 65)]) rfl rfl fun x9 e10 => ?_
    have e10t : x9.toInt = 100 := by rw [e10]; rfl
    refine aw_step (f1 := (17, [some (.ref 65), some (.int n)], [(.int n), (.int x9), (.ref 65)])) (w1 := w) rfl rfl ?_
    refine s_i (pc1 := 18) (ls1 := [some (.ref 65), some (.int n)]) (st1 := [(.ref 65)]) rfl rfl fun x11 e12 => ?_
    have e12 : x11 = x9 * n := e12
    have e12t : x11.toInt = 100 * n.toInt := by rw [e12, n_mul (by rw [e10t]; omega) (by rw [e10t]; omega), e10t]
    refine s_pi J 21 rfl rfl rfl rfl rfl rfl rfl (by omega) (by omega) fun w13 J14 w13e => ?_
    --
    refine aw_step (f1 := (22, [some (.ref 65), some (.int n)], [(.ref 65)])) (w1 := w13) rfl rfl ?_
    refine s_i (pc1 := 23) (ls1 := [some (.ref 65), some (.int n)]) (st1 := [(.ref 65)]) rfl rfl fun x15 e16 => ?_
    have e16t : x15.toInt = 1 := by rw [e16]; rfl
    refine s_pz J14 26 rfl rfl rfl rfl rfl rfl rfl (by omega) (by omega) fun w17 J18 w17e => ?_
    have f1 := fv_st J.1 (p := 65) (kf := 38) rfl (by decide) w13e
    have f2 := fv_st J14.1 (p := 65) (kf := 39) rfl (by decide) w17e
    have O2 : only [65] w w17 := f1.1.trans f2.1
    have hv : ∀ k, k ≠ 38 → k ≠ 39 → am_fv w17 65 k = am_fv w 65 k := fun k a c => (f2.2.2 k c).trans (f1.2.2 k a)
    have fe : ∀ j, fld w17 j = fld w j := by
      intro j
      unfold fld
      by_cases a : j < 8
      · rw [if_pos a, if_pos a]
        have hk : ∀ a, a < 8 → fk a ≠ 38 ∧ fk a ≠ 39 := by decide
        by_cases c : j = 3
        · rw [if_pos c, if_pos c]; exact fLi_eq (hv 4 (by decide) (by decide))
        · rw [if_neg c, if_neg c]; exact fI_eq (hv _ (hk j a).1 (hk j a).2)
      · rw [if_neg a, if_neg a, O2.rIe (by simp only [List.mem_singleton]; omega), O2.rIe (by simp only [List.mem_singleton]; omega), O2.rIe (by decide)]
    obtain ⟨SS, hSS⟩ : ∃ SS, SS = fld w := ⟨_, rfl⟩
    have hS : sOK SS := by rw [hSS]; exact fld_ok I
    have hP : pI (100 * n.toInt.toNat) 1 SS w w17 0 := by
      refine ⟨⟨?_, ?_, fun j hj => by omega, fun j _ hj => Or.inl ⟨rfl, ?_⟩, fun i _ => O2.rLie (by decide)⟩, O2.sub (by decide), hv 16 (by decide) (by decide)⟩
      · rw [fI_eq (f2.2.2 38 (by decide)), fI_of f1.2.1]; omega
      · rw [fI_of f2.2.1]; omega
      · rw [fe, hSS]
    refine aw_step (f1 := (27, [some (.ref 65), some (.int n)], [(.ref 65)])) (w1 := w17) rfl rfl ?_
    refine s_cv (z := 182) (p := 65) (as := []) (st1 := []) J18 30 rfl rfl rfl rfl rfl rfl rfl rfl (Nat.le_of_ble_eq_true rfl) (Nat.le_of_ble_eq_true rfl) (q_passAll3 (b := 100 * n.toInt.toNat) (S := SS) (wb := w) (mo := 1) (by omega) hS hP J18.1) ?_
    rintro _ w19 ⟨rfl, J20c, w19p, w19z⟩
    have J20 := J18.trans J20c
    refine ⟨am_len2 J18 J20c, ?_⟩
    show aw none _ 183 _ (30, [some (.ref 65), some (.int n)], []) w19
    have r88 : ∀ a, rI w19 88 a = rI w 88 a := fun a => (w19z a).trans (O2.rIe (by decide))
    refine aw_step (f1 := (31, [some (.ref 65), some (.int n)], [(.ref 65)])) (w1 := w19) rfl rfl ?_
    refine s_gr 88 J20 34 rfl rfl rfl rfl rfl rfl ?_
    refine aw_step (f1 := (35, [some (.ref 65), some (.int n)], [(.int n), (.ref 88)])) (w1 := w19) rfl rfl ?_
    refine s_i (pc1 := 36) (ls1 := [some (.ref 65), some (.int n)]) (st1 := [(.int n), (.ref 88)]) rfl rfl fun x21 e22 => ?_
    have e22t : x21.toInt = 1 := by rw [e22]; rfl
    refine s_bs J20 37 rfl rfl rfl rfl (by omega) (by omega) (by omega) fun w23 J24 w23e => ?_
    refine s_i (pc1 := 38) (ls1 := [some (.ref 65), some (.int n)]) (st1 := []) rfl rfl fun x25 e26 => ?_
    have e26t : x25.toInt = 1 := by rw [e26]; rfl
    refine aw_ret (v := some (.int x25)) rfl rfl ?_
    have sz := rZ_st J20.1 (p := 88) (j := n.toInt.toNat) rfl (by omega) w23e
    have pp := w19p
    have fe2 : ∀ j, fld w23 j = fld w19 j := fld_e0 sz.1
    refine ⟨J24.1, fun a ha hk => ?_, x25, rfl, Or.inr ⟨by omega, ⟨by omega, by omega⟩, (pp.2.1.sub (by decide)).trans (sz.1.sub (by decide)), (sz.1.fv (by decide)).trans pp.2.2, fun j hj => ?_, fun j hj => ?_, fun i hi => ?_, by rw [sz.2.1]; omega, fun j hj => by rw [sz.2.2 j hj, r88 j]⟩⟩
    · by_cases e : a = n.toInt.toNat
      · rw [e]
        exact hS.of fun j hj => by
          show rLi w23 87 (100 * n.toInt.toNat + j) = SS j
          rw [sz.1.rLie (by decide)]
          exact (pp.1.2.2.1 j hj).1
      · rw [sz.2.2 a e] at hk
        have hkz : rI w19 88 a = rI w 88 a := r88 a
        refine (ko a ha (by rw [← hkz]; exact hk)).of fun j hj => ?_
        show rLi w23 87 (100 * a + j) = rLi w 87 (100 * a + j)
        rw [sz.1.rLie (by decide)]
        exact pp.1.2.2.2.2 _ (by omega)
    · rw [fe2, (pp.1.2.2.1 j hj).2, hSS]
    · rw [sz.1.rLie (by decide), (pp.1.2.2.1 j hj).1, hSS]
    · rw [sz.1.rLie (by decide)]; exact pp.1.2.2.2.2 i hi
  · --
    --
    refine s_i (pc1 := 12) (ls1 := [some (.ref 65), some (.int n)]) (st1 := []) rfl rfl fun x27 e28 => ?_
    have e28t : x27.toInt = -2 := by rw [e28]; rfl
    refine aw_ret (v := some (.int x27)) rfl rfl ?_
    exact ⟨J.1, ko, x27, rfl, Or.inl ⟨by omega, by omega, rfl⟩⟩
theorem x_restore {d : Nat} {w : am_W} (n : Int32) (I : ab_inv ab_TT ab_sets w) (ko : kOK w) : aw none (d + 3) 184 (fun r w1 => ab_inv ab_TT ab_sets w1 ∧ kOK w1 ∧ ∃ b : Int32, r = some (.int b) ∧ ((b.toInt = -2 ∧ (n.toInt < 0 ∨ 1 < n.toInt) ∧ w1 = w) ∨ (b.toInt = -3 ∧ (0 ≤ n.toInt ∧ n.toInt ≤ 1) ∧ rI w 88 n.toInt.toNat = 0 ∧ w1 = w) ∨ (b.toInt = 1 ∧ (0 ≤ n.toInt ∧ n.toInt ≤ 1) ∧ rI w 88 n.toInt.toNat ≠ 0 ∧ rxP n.toInt.toNat w w1))) (0, am_entry 184 [.ref 65, .int n], []) w := by
  have J : ab_J ab_TT ab_sets ab_WR4 w w := ⟨I, ab_fr.rf⟩
  show aw none (d + 3) 184 _ (0, [some (.ref 65), some (.int n)], []) w
  refine aw_step (f1 := (1, [some (.ref 65), some (.int n)], [(.int n)])) (w1 := w) rfl rfl ?_
  refine s_l (pc1 := 2) (ls1 := [some (.ref 65), some (.int n)]) (st1 := []) rfl rfl fun y1 e2 => ?_
  have e2t : y1.toInt = n.toInt := by rw [e2]; exact Int32.toInt_toInt64 n
  refine s_l (pc1 := 3) (ls1 := [some (.ref 65), some (.int n)]) (st1 := [(.long y1)]) rfl rfl fun y3 e4 => ?_
  have e4t : y3.toInt = 0 := by rw [e4]; rfl
  refine s_l (pc1 := 4) (ls1 := [some (.ref 65), some (.int n)]) (st1 := [(.long y3), (.long y1)]) rfl rfl fun y5 e6 => ?_
  have e6t : y5.toInt = 1 := by rw [e6]; rfl
  refine s_cs (z := 108) (as := [(.long y1), (.long y3), (.long y5)]) (st1 := []) 7 rfl rfl rfl rfl rfl rfl (Nat.le_of_ble_eq_true rfl) (Nat.le_of_ble_eq_true rfl) (Nat.le_of_ble_eq_true rfl) (q_in2 y1 y3 y5) ?_
  rintro _ _ ⟨rfl, x7, rfl, x7t⟩
  refine ⟨rfl, ?_⟩
  show aw none _ 184 _ (7, [some (.ref 65), some (.int n)], [(.int x7)]) w
  refine s_if 13 10 rfl rfl rfl (fun (h8 : ¬ x7.toInt = 0) => ?_) (fun (h8 : ¬ (¬ x7.toInt = 0)) => ?_)
  · --
    refine aw_step (f1 := (14, [some (.ref 65), some (.int n)], [(.ref 65)])) (w1 := w) rfl rfl ?_
    refine s_gr 88 J 17 rfl rfl rfl rfl rfl rfl ?_
    refine aw_step (f1 := (18, [some (.ref 65), some (.int n)], [(.int n), (.ref 88)])) (w1 := w) rfl rfl ?_
    refine s_ba J 19 rfl rfl rfl (by omega) (by omega) fun x9 x9a x9b x9f => ?_
    have hk88 := rI_of x9f
    refine s_if 25 22 rfl rfl rfl (fun (h10 : ¬ x9.toInt = 0) => ?_) (fun (h10 : ¬ (¬ x9.toInt = 0)) => ?_)
    · --
      --
      refine aw_step (f1 := (26, [some (.ref 65), some (.int n)], [(.ref 65)])) (w1 := w) rfl rfl ?_
      refine s_i (pc1 := 28) (ls1 := [some (.ref 65), some (.int n)]) (st1 := [(.ref 65)]) rfl rfl fun x11 e12 => ?_
      have e12t : x11.toInt = 100 := by rw [e12]; rfl
      refine aw_step (f1 := (29, [some (.ref 65), some (.int n)], [(.int n), (.int x11), (.ref 65)])) (w1 := w) rfl rfl ?_
      refine s_i (pc1 := 30) (ls1 := [some (.ref 65), some (.int n)]) (st1 := [(.ref 65)]) rfl rfl fun x13 e14 => ?_
      have e14 : x13 = x11 * n := e14
      have e14t : x13.toInt = 100 * n.toInt := by rw [e14, n_mul (by rw [e12t]; omega) (by rw [e12t]; omega), e12t]
      refine s_pi J 33 rfl rfl rfl rfl rfl rfl rfl (by omega) (by omega) fun w15 J16 w15e => ?_
      --
      refine aw_step (f1 := (34, [some (.ref 65), some (.int n)], [(.ref 65)])) (w1 := w15) rfl rfl ?_
      refine s_i (pc1 := 35) (ls1 := [some (.ref 65), some (.int n)]) (st1 := [(.ref 65)]) rfl rfl fun x17 e18 => ?_
      have e18t : x17.toInt = 0 := by rw [e18]; rfl
      refine s_pz J16 38 rfl rfl rfl rfl rfl rfl rfl (by omega) (by omega) fun w19 J20 w19e => ?_
      have f1 := fv_st J.1 (p := 65) (kf := 38) rfl (by decide) w15e
      have f2 := fv_st J16.1 (p := 65) (kf := 39) rfl (by decide) w19e
      have O2 : only [65] w w19 := f1.1.trans f2.1
      have hv : ∀ k, k ≠ 38 → k ≠ 39 → am_fv w19 65 k = am_fv w 65 k := fun k a c => (f2.2.2 k c).trans (f1.2.2 k a)
      have fe : ∀ j, fld w19 j = fld w j := by
        intro j
        unfold fld
        by_cases a : j < 8
        · rw [if_pos a, if_pos a]
          have hk : ∀ a, a < 8 → fk a ≠ 38 ∧ fk a ≠ 39 := by decide
          by_cases c : j = 3
          · rw [if_pos c, if_pos c]; exact fLi_eq (hv 4 (by decide) (by decide))
          · rw [if_neg c, if_neg c]; exact fI_eq (hv _ (hk j a).1 (hk j a).2)
        · rw [if_neg a, if_neg a, O2.rIe (by simp only [List.mem_singleton]; omega), O2.rIe (by simp only [List.mem_singleton]; omega), O2.rIe (by decide)]
      obtain ⟨SS, hSS⟩ : ∃ SS, SS = fun j => rLi w 87 (100 * n.toInt.toNat + j) := ⟨_, rfl⟩
      have hS : sOK SS := by rw [hSS]; exact ko n.toInt.toNat (by omega) (by rw [rI_of x9f]; omega)
      have hP : pI (100 * n.toInt.toNat) 0 SS w w19 0 := by
        refine ⟨⟨?_, ?_, fun j hj => by omega, fun j _ hj => Or.inr ⟨rfl, ?_⟩, fun i _ => O2.rLie (by decide)⟩, O2.sub (by decide), hv 16 (by decide) (by decide)⟩
        · rw [fI_eq (f2.2.2 38 (by decide)), fI_of f1.2.1]; omega
        · rw [fI_of f2.2.1]; omega
        · rw [O2.rLie (by decide), hSS]
      refine aw_step (f1 := (39, [some (.ref 65), some (.int n)], [(.ref 65)])) (w1 := w19) rfl rfl ?_
      refine s_cv (z := 182) (p := 65) (as := []) (st1 := []) J20 42 rfl rfl rfl rfl rfl rfl rfl rfl (Nat.le_of_ble_eq_true rfl) (Nat.le_of_ble_eq_true rfl) (q_passAll4 (b := 100 * n.toInt.toNat) (S := SS) (wb := w) (mo := 0) (by omega) hS hP J20.1) ?_
      rintro _ w21 ⟨rfl, J22c, w21p, w21z⟩
      have J22 := J20.trans J22c
      refine ⟨am_len2 J20 J22c, ?_⟩
      show aw none _ 184 _ (42, [some (.ref 65), some (.int n)], []) w21
      have r88 : ∀ a, rI w21 88 a = rI w 88 a := fun a => (w21z a).trans (O2.rIe (by decide))
      refine s_i (pc1 := 43) (ls1 := [some (.ref 65), some (.int n)]) (st1 := []) rfl rfl fun x23 e24 => ?_
      have e24t : x23.toInt = 1 := by rw [e24]; rfl
      refine aw_ret (v := some (.int x23)) rfl rfl ?_
      have pp := w21p
      refine ⟨J22.1, fun a ha hk => ?_, x23, rfl, Or.inr (Or.inr ⟨by omega, ⟨by omega, by omega⟩, by omega, pp.2.1, pp.2.2, fun j hj => ?_, fun j hj => ?_, fun i hi => pp.1.2.2.2.2 i hi⟩)⟩
      · have hkz : rI w21 88 a = rI w 88 a := r88 a
        refine (ko a ha (by rw [← hkz]; exact hk)).of fun j hj => ?_
        show rLi w21 87 (100 * a + j) = rLi w 87 (100 * a + j)
        by_cases e : a = n.toInt.toNat
        · rw [e, (pp.1.2.2.1 j hj).1, hSS]
        · exact pp.1.2.2.2.2 _ (by omega)
      · rw [(pp.1.2.2.1 j hj).2, hSS]
      · rw [(pp.1.2.2.1 j hj).1, hSS]
    · --
      --
      refine s_i (pc1 := 24) (ls1 := [some (.ref 65), some (.int n)]) (st1 := []) rfl rfl fun x25 e26 => ?_
      have e26t : x25.toInt = -3 := by rw [e26]; rfl
      refine aw_ret (v := some (.int x25)) rfl rfl ?_
      first
        | exact ⟨J.1, ko, x25, rfl, Or.inl ⟨by omega, by omega, rfl⟩⟩
        | exact ⟨J.1, ko, x25, rfl, Or.inr (Or.inl ⟨by omega, ⟨by omega, by omega⟩, by omega, rfl⟩)⟩
  · --
    --
    refine s_i (pc1 := 12) (ls1 := [some (.ref 65), some (.int n)]) (st1 := []) rfl rfl fun x27 e28 => ?_
    have e28t : x27.toInt = -2 := by rw [e28]; rfl
    refine aw_ret (v := some (.int x27)) rfl rfl ?_
    first
      | exact ⟨J.1, ko, x27, rfl, Or.inl ⟨by omega, by omega, rfl⟩⟩
      | exact ⟨J.1, ko, x27, rfl, Or.inr (Or.inl ⟨by omega, ⟨by omega, by omega⟩, by omega, rfl⟩)⟩
section ST4
variable {d k : Nat} {Q : Option Value → am_W → Prop} {pc : Nat} {ls : am_L} {st : List Value} {w w0 : am_W} {len : Nat} {T : List ab_C} {sets : List (List Nat)} {wr : ab_wT}
theorem s_cp {a b n idx z m : Nat} {lo hi : Int} {x sp dp : Int32} (hJ : ab_J T sets wr w0 w) (u : Nat) (hf : am_find (am_code k) pc = some (.invokestatic idx, len)) (hu : pc + 3 = u) (hz : am_find (am_invT (am_mi k).1) idx = some (6, z, m)) (hTa : T[a]? = some (.inl (0, n, lo, hi))) (hTb : T[b]? = some (.inl (0, n, lo, hi))) (hwr : wr.1.contains a = true) (hx : x.toInt = n) (hs : sp.toInt = 0) (hd : dp.toInt = 0) (hcat : (st.map fun v => v.category).sum ≤ 8) (h : ∀ w1, ab_J T sets wr w0 w1 → (only [a] w w1 ∧ ∀ j, rI w1 a j = rI w b j) → aw none d k Q (u, ls, st) w1) : aw none d k Q (pc, ls, .int x :: .int dp :: .ref a :: .int sp :: .ref b :: st) w := by
  subst hu
  have e1 : sp = 0 := n_0 hs
  have e2 : dp = 0 := n_0 hd
  subst e1
  subst e2
  obtain ⟨qa, wa, ha⟩ := hJ.1.2 _ _ hTa
  obtain ⟨qb, wb, hb⟩ := hJ.1.2 _ _ hTb
  rcases ha with ⟨-, g, rfl, g1, g2⟩ | ⟨h1, -⟩ | ⟨h1, -⟩ | h1
  · rcases hb with ⟨-, f, rfl, f1, f2⟩ | ⟨h1, -⟩ | ⟨h1, -⟩ | h1
    · have hn : x.toNatClampNeg = n := by
        have : x.toNatClampNeg = x.toInt.toNat := rfl
        rw [this, hx]; omega
      have cp : am_cpy f g 0 0 n = f := by
        unfold am_cpy
        rw [List.take_zero, List.drop_zero, Nat.zero_add, ← f1, List.take_length, f1, ← g1, List.drop_length]
        simp
      refine aw_step hf (f1 := (pc + 3, ls, st)) (w1 := w.set a (.inl (.inl (0, f)))) ?_ (h _ (ab_put hJ (List.contains_iff_mem.mp hwr) hTa (Or.inl ⟨rfl, _, rfl, f1, f2⟩)) ⟨only_set, fun j => ?_⟩)
      · show am_call 1 (am_mi k).1 idx (pc + 3) ls _ w = _
        unfold am_call
        rw [hz]
        simp only
        rw [show Nat.blt 6 6 = false from rfl, show Nat.beq 6 7 = false from rfl, show Nat.beq 1 1 = true from rfl]
        simp only [cond_false, cond_true]
        unfold am_jdk
        rw [show Nat.beq 6 6 = true from rfl]
        simp only [cond_true]
        unfold am_copy
        simp only
        rw [wa, wb]
        simp only
        rw [show Int32.toNatClampNeg 0 = 0 from rfl, hn, cp, if_neg]
        · rfl
        · intro q
          rcases q with q | q | q | q | q | q
          · have := Int32.lt_iff_toInt_lt.mp q
            rw [hx, show (0 : Int32).toInt = 0 from rfl] at this
            omega
          · exact absurd q (by decide)
          · exact absurd q (by decide)
          · omega
          · omega
          · omega
      · unfold rI
        rw [am_row_eq (List.getElem?_eq_some_iff.mp wa).1]
        unfold am_row
        rw [wb]
    all_goals cases h1
  all_goals cases h1
end ST4
/-- a scene is copied -/
noncomputable def cpyP (p q : Nat) (w w1 : am_W) : Prop := (∀ x, x < p ∨ p + 10 < x → w1[x]? = w[x]?) ∧ (∀ k, k < 7 → am_fv w1 p k = am_fv w q k) ∧ ∀ r, 1 ≤ r → r ≤ 10 → ∀ j, rI w1 (p + r) j = rI w (q + r) j
theorem fI_x {w w2 : am_W} {p q k : Nat} (h : am_fv w2 p k = am_fv w q k) : fI w2 p k = fI w q k := by unfold fI; rw [h]
theorem fLi_x {w w2 : am_W} {p q k : Nat} (h : am_fv w2 p k = am_fv w q k) : fLi w2 p k = fLi w q k := by unfold fLi; rw [h]
theorem fL_x {w w2 : am_W} {p q k : Nat} (h : am_fv w2 p k = am_fv w q k) : fL w2 p k = fL w q k := by unfold fL; rw [h]
theorem RCs.copy {w w1 : am_W} {p q : Nat} {V : Nat → Int} (R : RCs w q V) (C : cpyP p q w w1) : RCs w1 p V := by
  obtain ⟨-, c2, c3⟩ := C
  refine ⟨fun j hj => ?_, fun c hc => ?_, fun c => ?_⟩
  · rw [← R.1 j hj]
    unfold sc
    have h11 := rr_11 j hj
    by_cases a : rr j = 0
    · rw [if_pos a, if_pos a]
      by_cases b : j = 3
      · rw [if_pos b, if_pos b]; exact fLi_x (c2 6 (by decide))
      · rw [if_neg b, if_neg b]
        have k : ∀ j, j < 40 → ck j < 7 := by decide +kernel
        exact fI_x (c2 _ (k j hj))
    · rw [if_neg a, if_neg a]; exact c3 _ (by omega) (by omega) _
  · rw [c3 1 (by decide) (by decide), c3 2 (by decide) (by decide), c3 3 (by decide) (by decide)]
    exact R.2.1 c hc
  · rw [show fL w1 p 5 = fL w q 5 from fL_x (c2 5 (by decide))]
    exact R.2.2 c
theorem e_copy43_3 {d : Nat} {w : am_W} (I : ab_inv ab_TT ab_sets w) : aw none d 37 (fun r w1 => r = none ∧ ab_J ab_TT ab_sets ab_WR2 w w1 ∧ cpyP 43 3 w w1) (0, am_entry 37 [.ref 43, .ref 3], []) w := by
  have J : ab_J ab_TT ab_sets ab_WR2 w w := ⟨I, ab_fr.rf⟩
  show aw none d 37 _ (0, [some (.ref 43), some (.ref 3)], []) w
  refine aw_step (f1 := (1, [some (.ref 43), some (.ref 3)], [(.ref 43)])) (w1 := w) rfl rfl ?_
  refine aw_step (f1 := (2, [some (.ref 43), some (.ref 3)], [(.ref 3), (.ref 43)])) (w1 := w) rfl rfl ?_
  refine s_gi J 5 rfl rfl rfl rfl rfl rfl fun x1 x1a x1b x1f => ?_
  have x1v : x1.toInt = fI w 3 0 := by rw [← fI_of x1f]
  --
  refine s_pi J 8 rfl rfl rfl rfl rfl rfl rfl (by omega) (by omega) fun w2 J3 w2e => ?_
  have w2f := fv_st J.1 (p := 43) (kf := 0) rfl (by decide) w2e
  refine aw_step (f1 := (9, [some (.ref 43), some (.ref 3)], [(.ref 43)])) (w1 := w2) rfl rfl ?_
  refine aw_step (f1 := (10, [some (.ref 43), some (.ref 3)], [(.ref 3), (.ref 43)])) (w1 := w2) rfl rfl ?_
  refine s_gi J3 13 rfl rfl rfl rfl rfl rfl fun x4 x4a x4b x4f => ?_
  have x4v : x4.toInt = fI w 3 1 := by rw [← fI_of x4f, w2f.1.fIe (by decide)]
  --
  refine s_pi J3 16 rfl rfl rfl rfl rfl rfl rfl (by omega) (by omega) fun w5 J6 w5e => ?_
  have w5f := fv_st J3.1 (p := 43) (kf := 1) rfl (by decide) w5e
  refine aw_step (f1 := (17, [some (.ref 43), some (.ref 3)], [(.ref 43)])) (w1 := w5) rfl rfl ?_
  refine aw_step (f1 := (18, [some (.ref 43), some (.ref 3)], [(.ref 3), (.ref 43)])) (w1 := w5) rfl rfl ?_
  refine s_gi J6 21 rfl rfl rfl rfl rfl rfl fun x7 x7a x7b x7f => ?_
  have x7v : x7.toInt = fI w 3 2 := by rw [← fI_of x7f, w5f.1.fIe (by decide), w2f.1.fIe (by decide)]
  --
  refine s_pi J6 24 rfl rfl rfl rfl rfl rfl rfl (by omega) (by omega) fun w8 J9 w8e => ?_
  have w8f := fv_st J6.1 (p := 43) (kf := 2) rfl (by decide) w8e
  refine aw_step (f1 := (25, [some (.ref 43), some (.ref 3)], [(.ref 43)])) (w1 := w8) rfl rfl ?_
  refine aw_step (f1 := (26, [some (.ref 43), some (.ref 3)], [(.ref 3), (.ref 43)])) (w1 := w8) rfl rfl ?_
  refine s_gi J9 29 rfl rfl rfl rfl rfl rfl fun x10 x10a x10b x10f => ?_
  have x10v : x10.toInt = fI w 3 3 := by rw [← fI_of x10f, w8f.1.fIe (by decide), w5f.1.fIe (by decide), w2f.1.fIe (by decide)]
  --
  refine s_pi J9 32 rfl rfl rfl rfl rfl rfl rfl (by omega) (by omega) fun w11 J12 w11e => ?_
  have w11f := fv_st J9.1 (p := 43) (kf := 3) rfl (by decide) w11e
  refine aw_step (f1 := (33, [some (.ref 43), some (.ref 3)], [(.ref 43)])) (w1 := w11) rfl rfl ?_
  refine aw_step (f1 := (34, [some (.ref 43), some (.ref 3)], [(.ref 3), (.ref 43)])) (w1 := w11) rfl rfl ?_
  refine s_gi J12 37 rfl rfl rfl rfl rfl rfl fun x13 x13a x13b x13f => ?_
  have x13v : x13.toInt = fI w 3 4 := by rw [← fI_of x13f, w11f.1.fIe (by decide), w8f.1.fIe (by decide), w5f.1.fIe (by decide), w2f.1.fIe (by decide)]
  --
  refine s_pi J12 40 rfl rfl rfl rfl rfl rfl rfl (by omega) (by omega) fun w14 J15 w14e => ?_
  have w14f := fv_st J12.1 (p := 43) (kf := 4) rfl (by decide) w14e
  refine aw_step (f1 := (41, [some (.ref 43), some (.ref 3)], [(.ref 43)])) (w1 := w14) rfl rfl ?_
  refine aw_step (f1 := (42, [some (.ref 43), some (.ref 3)], [(.ref 3), (.ref 43)])) (w1 := w14) rfl rfl ?_
  refine s_gl J15 45 rfl rfl rfl rfl rfl rfl fun y16 y16a y16b y16f => ?_
  --
  refine s_p J15 48 rfl rfl rfl rfl rfl rfl rfl rfl (Or.inr (Or.inl ⟨rfl, y16, rfl, by show (-9223372036854775808 : Int) ≤ _; first | omega | exact (ab_any64 _).1, by show _ ≤ (9223372036854775807 : Int); first | omega | exact (ab_any64 _).2⟩)) fun w17 J18 w17e => ?_
  have w17f := fv_st J15.1 (p := 43) (kf := 5) rfl (by decide) w17e
  refine aw_step (f1 := (49, [some (.ref 43), some (.ref 3)], [(.ref 43)])) (w1 := w17) rfl rfl ?_
  refine aw_step (f1 := (50, [some (.ref 43), some (.ref 3)], [(.ref 3), (.ref 43)])) (w1 := w17) rfl rfl ?_
  refine s_gl J18 53 rfl rfl rfl rfl rfl rfl fun y19 y19a y19b y19f => ?_
  --
  refine s_p J18 56 rfl rfl rfl rfl rfl rfl rfl rfl (Or.inr (Or.inl ⟨rfl, y19, rfl, by show (-9223372036854775808 : Int) ≤ _; first | omega | exact (ab_any64 _).1, by show _ ≤ (9223372036854775807 : Int); first | omega | exact (ab_any64 _).2⟩)) fun w20 J21 w20e => ?_
  have w20f := fv_st J18.1 (p := 43) (kf := 6) rfl (by decide) w20e
  refine aw_step (f1 := (57, [some (.ref 43), some (.ref 3)], [(.ref 3)])) (w1 := w20) rfl rfl ?_
  refine s_gr 4 J21 60 rfl rfl rfl rfl rfl rfl ?_
  refine s_i (pc1 := 61) (ls1 := [some (.ref 43), some (.ref 3)]) (st1 := [(.ref 4)]) rfl rfl fun x22 e23 => ?_
  have e23t : x22.toInt = 0 := by rw [e23]; rfl
  refine aw_step (f1 := (62, [some (.ref 43), some (.ref 3)], [(.ref 43), (.int x22), (.ref 4)])) (w1 := w20) rfl rfl ?_
  refine s_gr 44 J21 65 rfl rfl rfl rfl rfl rfl ?_
  refine s_i (pc1 := 66) (ls1 := [some (.ref 43), some (.ref 3)]) (st1 := [(.ref 44), (.int x22), (.ref 4)]) rfl rfl fun x24 e25 => ?_
  have e25t : x24.toInt = 0 := by rw [e25]; rfl
  refine s_i (pc1 := 68) (ls1 := [some (.ref 43), some (.ref 3)]) (st1 := [(.int x24), (.ref 44), (.int x22), (.ref 4)]) rfl rfl fun x26 e27 => ?_
  have e27t : x26.toInt = 36 := by rw [e27]; rfl
  refine s_cp J21 71 rfl rfl rfl rfl rfl rfl (by omega) (by omega) (by omega) (Nat.le_of_ble_eq_true rfl) fun w28 J29 w28f => ?_
  refine aw_step (f1 := (72, [some (.ref 43), some (.ref 3)], [(.ref 3)])) (w1 := w28) rfl rfl ?_
  refine s_gr 5 J29 75 rfl rfl rfl rfl rfl rfl ?_
  refine s_i (pc1 := 76) (ls1 := [some (.ref 43), some (.ref 3)]) (st1 := [(.ref 5)]) rfl rfl fun x30 e31 => ?_
  have e31t : x30.toInt = 0 := by rw [e31]; rfl
  refine aw_step (f1 := (77, [some (.ref 43), some (.ref 3)], [(.ref 43), (.int x30), (.ref 5)])) (w1 := w28) rfl rfl ?_
  refine s_gr 45 J29 80 rfl rfl rfl rfl rfl rfl ?_
  refine s_i (pc1 := 81) (ls1 := [some (.ref 43), some (.ref 3)]) (st1 := [(.ref 45), (.int x30), (.ref 5)]) rfl rfl fun x32 e33 => ?_
  have e33t : x32.toInt = 0 := by rw [e33]; rfl
  refine s_i (pc1 := 83) (ls1 := [some (.ref 43), some (.ref 3)]) (st1 := [(.int x32), (.ref 45), (.int x30), (.ref 5)]) rfl rfl fun x34 e35 => ?_
  have e35t : x34.toInt = 36 := by rw [e35]; rfl
  refine s_cp J29 86 rfl rfl rfl rfl rfl rfl (by omega) (by omega) (by omega) (Nat.le_of_ble_eq_true rfl) fun w36 J37 w36f => ?_
  refine aw_step (f1 := (87, [some (.ref 43), some (.ref 3)], [(.ref 3)])) (w1 := w36) rfl rfl ?_
  refine s_gr 6 J37 90 rfl rfl rfl rfl rfl rfl ?_
  refine s_i (pc1 := 91) (ls1 := [some (.ref 43), some (.ref 3)]) (st1 := [(.ref 6)]) rfl rfl fun x38 e39 => ?_
  have e39t : x38.toInt = 0 := by rw [e39]; rfl
  refine aw_step (f1 := (92, [some (.ref 43), some (.ref 3)], [(.ref 43), (.int x38), (.ref 6)])) (w1 := w36) rfl rfl ?_
  refine s_gr 46 J37 95 rfl rfl rfl rfl rfl rfl ?_
  refine s_i (pc1 := 96) (ls1 := [some (.ref 43), some (.ref 3)]) (st1 := [(.ref 46), (.int x38), (.ref 6)]) rfl rfl fun x40 e41 => ?_
  have e41t : x40.toInt = 0 := by rw [e41]; rfl
  refine s_i (pc1 := 98) (ls1 := [some (.ref 43), some (.ref 3)]) (st1 := [(.int x40), (.ref 46), (.int x38), (.ref 6)]) rfl rfl fun x42 e43 => ?_
  have e43t : x42.toInt = 36 := by rw [e43]; rfl
  refine s_cp J37 101 rfl rfl rfl rfl rfl rfl (by omega) (by omega) (by omega) (Nat.le_of_ble_eq_true rfl) fun w44 J45 w44f => ?_
  refine aw_step (f1 := (102, [some (.ref 43), some (.ref 3)], [(.ref 3)])) (w1 := w44) rfl rfl ?_
  refine s_gr 7 J45 105 rfl rfl rfl rfl rfl rfl ?_
  refine s_i (pc1 := 106) (ls1 := [some (.ref 43), some (.ref 3)]) (st1 := [(.ref 7)]) rfl rfl fun x46 e47 => ?_
  have e47t : x46.toInt = 0 := by rw [e47]; rfl
  refine aw_step (f1 := (107, [some (.ref 43), some (.ref 3)], [(.ref 43), (.int x46), (.ref 7)])) (w1 := w44) rfl rfl ?_
  refine s_gr 47 J45 110 rfl rfl rfl rfl rfl rfl ?_
  refine s_i (pc1 := 111) (ls1 := [some (.ref 43), some (.ref 3)]) (st1 := [(.ref 47), (.int x46), (.ref 7)]) rfl rfl fun x48 e49 => ?_
  have e49t : x48.toInt = 0 := by rw [e49]; rfl
  refine s_i (pc1 := 112) (ls1 := [some (.ref 43), some (.ref 3)]) (st1 := [(.int x48), (.ref 47), (.int x46), (.ref 7)]) rfl rfl fun x50 e51 => ?_
  have e51t : x50.toInt = 4 := by rw [e51]; rfl
  refine s_cp J45 115 rfl rfl rfl rfl rfl rfl (by omega) (by omega) (by omega) (Nat.le_of_ble_eq_true rfl) fun w52 J53 w52f => ?_
  refine aw_step (f1 := (116, [some (.ref 43), some (.ref 3)], [(.ref 3)])) (w1 := w52) rfl rfl ?_
  refine s_gr 8 J53 119 rfl rfl rfl rfl rfl rfl ?_
  refine s_i (pc1 := 120) (ls1 := [some (.ref 43), some (.ref 3)]) (st1 := [(.ref 8)]) rfl rfl fun x54 e55 => ?_
  have e55t : x54.toInt = 0 := by rw [e55]; rfl
  refine aw_step (f1 := (121, [some (.ref 43), some (.ref 3)], [(.ref 43), (.int x54), (.ref 8)])) (w1 := w52) rfl rfl ?_
  refine s_gr 48 J53 124 rfl rfl rfl rfl rfl rfl ?_
  refine s_i (pc1 := 125) (ls1 := [some (.ref 43), some (.ref 3)]) (st1 := [(.ref 48), (.int x54), (.ref 8)]) rfl rfl fun x56 e57 => ?_
  have e57t : x56.toInt = 0 := by rw [e57]; rfl
  refine s_i (pc1 := 126) (ls1 := [some (.ref 43), some (.ref 3)]) (st1 := [(.int x56), (.ref 48), (.int x54), (.ref 8)]) rfl rfl fun x58 e59 => ?_
  have e59t : x58.toInt = 4 := by rw [e59]; rfl
  refine s_cp J53 129 rfl rfl rfl rfl rfl rfl (by omega) (by omega) (by omega) (Nat.le_of_ble_eq_true rfl) fun w60 J61 w60f => ?_
  refine aw_step (f1 := (130, [some (.ref 43), some (.ref 3)], [(.ref 3)])) (w1 := w60) rfl rfl ?_
  refine s_gr 9 J61 133 rfl rfl rfl rfl rfl rfl ?_
  refine s_i (pc1 := 134) (ls1 := [some (.ref 43), some (.ref 3)]) (st1 := [(.ref 9)]) rfl rfl fun x62 e63 => ?_
  have e63t : x62.toInt = 0 := by rw [e63]; rfl
  refine aw_step (f1 := (135, [some (.ref 43), some (.ref 3)], [(.ref 43), (.int x62), (.ref 9)])) (w1 := w60) rfl rfl ?_
  refine s_gr 49 J61 138 rfl rfl rfl rfl rfl rfl ?_
  refine s_i (pc1 := 139) (ls1 := [some (.ref 43), some (.ref 3)]) (st1 := [(.ref 49), (.int x62), (.ref 9)]) rfl rfl fun x64 e65 => ?_
  have e65t : x64.toInt = 0 := by rw [e65]; rfl
  refine s_i (pc1 := 140) (ls1 := [some (.ref 43), some (.ref 3)]) (st1 := [(.int x64), (.ref 49), (.int x62), (.ref 9)]) rfl rfl fun x66 e67 => ?_
  have e67t : x66.toInt = 2 := by rw [e67]; rfl
  refine s_cp J61 143 rfl rfl rfl rfl rfl rfl (by omega) (by omega) (by omega) (Nat.le_of_ble_eq_true rfl) fun w68 J69 w68f => ?_
  refine aw_step (f1 := (144, [some (.ref 43), some (.ref 3)], [(.ref 3)])) (w1 := w68) rfl rfl ?_
  refine s_gr 10 J69 147 rfl rfl rfl rfl rfl rfl ?_
  refine s_i (pc1 := 148) (ls1 := [some (.ref 43), some (.ref 3)]) (st1 := [(.ref 10)]) rfl rfl fun x70 e71 => ?_
  have e71t : x70.toInt = 0 := by rw [e71]; rfl
  refine aw_step (f1 := (149, [some (.ref 43), some (.ref 3)], [(.ref 43), (.int x70), (.ref 10)])) (w1 := w68) rfl rfl ?_
  refine s_gr 50 J69 152 rfl rfl rfl rfl rfl rfl ?_
  refine s_i (pc1 := 153) (ls1 := [some (.ref 43), some (.ref 3)]) (st1 := [(.ref 50), (.int x70), (.ref 10)]) rfl rfl fun x72 e73 => ?_
  have e73t : x72.toInt = 0 := by rw [e73]; rfl
  refine s_i (pc1 := 154) (ls1 := [some (.ref 43), some (.ref 3)]) (st1 := [(.int x72), (.ref 50), (.int x70), (.ref 10)]) rfl rfl fun x74 e75 => ?_
  have e75t : x74.toInt = 4 := by rw [e75]; rfl
  refine s_cp J69 157 rfl rfl rfl rfl rfl rfl (by omega) (by omega) (by omega) (Nat.le_of_ble_eq_true rfl) fun w76 J77 w76f => ?_
  refine aw_step (f1 := (158, [some (.ref 43), some (.ref 3)], [(.ref 3)])) (w1 := w76) rfl rfl ?_
  refine s_gr 11 J77 161 rfl rfl rfl rfl rfl rfl ?_
  refine s_i (pc1 := 162) (ls1 := [some (.ref 43), some (.ref 3)]) (st1 := [(.ref 11)]) rfl rfl fun x78 e79 => ?_
  have e79t : x78.toInt = 0 := by rw [e79]; rfl
  refine aw_step (f1 := (163, [some (.ref 43), some (.ref 3)], [(.ref 43), (.int x78), (.ref 11)])) (w1 := w76) rfl rfl ?_
  refine s_gr 51 J77 166 rfl rfl rfl rfl rfl rfl ?_
  refine s_i (pc1 := 167) (ls1 := [some (.ref 43), some (.ref 3)]) (st1 := [(.ref 51), (.int x78), (.ref 11)]) rfl rfl fun x80 e81 => ?_
  have e81t : x80.toInt = 0 := by rw [e81]; rfl
  refine s_i (pc1 := 168) (ls1 := [some (.ref 43), some (.ref 3)]) (st1 := [(.int x80), (.ref 51), (.int x78), (.ref 11)]) rfl rfl fun x82 e83 => ?_
  have e83t : x82.toInt = 4 := by rw [e83]; rfl
  refine s_cp J77 171 rfl rfl rfl rfl rfl rfl (by omega) (by omega) (by omega) (Nat.le_of_ble_eq_true rfl) fun w84 J85 w84f => ?_
  refine aw_step (f1 := (172, [some (.ref 43), some (.ref 3)], [(.ref 3)])) (w1 := w84) rfl rfl ?_
  refine s_gr 12 J85 175 rfl rfl rfl rfl rfl rfl ?_
  refine s_i (pc1 := 176) (ls1 := [some (.ref 43), some (.ref 3)]) (st1 := [(.ref 12)]) rfl rfl fun x86 e87 => ?_
  have e87t : x86.toInt = 0 := by rw [e87]; rfl
  refine aw_step (f1 := (177, [some (.ref 43), some (.ref 3)], [(.ref 43), (.int x86), (.ref 12)])) (w1 := w84) rfl rfl ?_
  refine s_gr 52 J85 180 rfl rfl rfl rfl rfl rfl ?_
  refine s_i (pc1 := 181) (ls1 := [some (.ref 43), some (.ref 3)]) (st1 := [(.ref 52), (.int x86), (.ref 12)]) rfl rfl fun x88 e89 => ?_
  have e89t : x88.toInt = 0 := by rw [e89]; rfl
  refine s_i (pc1 := 183) (ls1 := [some (.ref 43), some (.ref 3)]) (st1 := [(.int x88), (.ref 52), (.int x86), (.ref 12)]) rfl rfl fun x90 e91 => ?_
  have e91t : x90.toInt = 8 := by rw [e91]; rfl
  refine s_cp J85 186 rfl rfl rfl rfl rfl rfl (by omega) (by omega) (by omega) (Nat.le_of_ble_eq_true rfl) fun w92 J93 w92f => ?_
  refine aw_step (f1 := (187, [some (.ref 43), some (.ref 3)], [(.ref 3)])) (w1 := w92) rfl rfl ?_
  refine s_gr 13 J93 190 rfl rfl rfl rfl rfl rfl ?_
  refine s_i (pc1 := 191) (ls1 := [some (.ref 43), some (.ref 3)]) (st1 := [(.ref 13)]) rfl rfl fun x94 e95 => ?_
  have e95t : x94.toInt = 0 := by rw [e95]; rfl
  refine aw_step (f1 := (192, [some (.ref 43), some (.ref 3)], [(.ref 43), (.int x94), (.ref 13)])) (w1 := w92) rfl rfl ?_
  refine s_gr 53 J93 195 rfl rfl rfl rfl rfl rfl ?_
  refine s_i (pc1 := 196) (ls1 := [some (.ref 43), some (.ref 3)]) (st1 := [(.ref 53), (.int x94), (.ref 13)]) rfl rfl fun x96 e97 => ?_
  have e97t : x96.toInt = 0 := by rw [e97]; rfl
  refine s_i (pc1 := 198) (ls1 := [some (.ref 43), some (.ref 3)]) (st1 := [(.int x96), (.ref 53), (.int x94), (.ref 13)]) rfl rfl fun x98 e99 => ?_
  have e99t : x98.toInt = 8 := by rw [e99]; rfl
  refine s_cp J93 201 rfl rfl rfl rfl rfl rfl (by omega) (by omega) (by omega) (Nat.le_of_ble_eq_true rfl) fun w100 J101 w100f => ?_
  refine aw_ret (v := none) rfl rfl ?_
  have g0 : am_fv w100 43 0 = am_fv w 3 0 := by rw [w100f.1.fv (by decide), w92f.1.fv (by decide), w84f.1.fv (by decide), w76f.1.fv (by decide), w68f.1.fv (by decide), w60f.1.fv (by decide), w52f.1.fv (by decide), w44f.1.fv (by decide), w36f.1.fv (by decide), w28f.1.fv (by decide), w20f.2.2 0 (by decide), w17f.2.2 0 (by decide), w14f.2.2 0 (by decide), w11f.2.2 0 (by decide), w8f.2.2 0 (by decide), w5f.2.2 0 (by decide), w2f.2.1, ← x1f]
  have g1 : am_fv w100 43 1 = am_fv w 3 1 := by rw [w100f.1.fv (by decide), w92f.1.fv (by decide), w84f.1.fv (by decide), w76f.1.fv (by decide), w68f.1.fv (by decide), w60f.1.fv (by decide), w52f.1.fv (by decide), w44f.1.fv (by decide), w36f.1.fv (by decide), w28f.1.fv (by decide), w20f.2.2 1 (by decide), w17f.2.2 1 (by decide), w14f.2.2 1 (by decide), w11f.2.2 1 (by decide), w8f.2.2 1 (by decide), w5f.2.1, ← x4f, w2f.1.fv (by decide)]
  have g2 : am_fv w100 43 2 = am_fv w 3 2 := by rw [w100f.1.fv (by decide), w92f.1.fv (by decide), w84f.1.fv (by decide), w76f.1.fv (by decide), w68f.1.fv (by decide), w60f.1.fv (by decide), w52f.1.fv (by decide), w44f.1.fv (by decide), w36f.1.fv (by decide), w28f.1.fv (by decide), w20f.2.2 2 (by decide), w17f.2.2 2 (by decide), w14f.2.2 2 (by decide), w11f.2.2 2 (by decide), w8f.2.1, ← x7f, w5f.1.fv (by decide), w2f.1.fv (by decide)]
  have g3 : am_fv w100 43 3 = am_fv w 3 3 := by rw [w100f.1.fv (by decide), w92f.1.fv (by decide), w84f.1.fv (by decide), w76f.1.fv (by decide), w68f.1.fv (by decide), w60f.1.fv (by decide), w52f.1.fv (by decide), w44f.1.fv (by decide), w36f.1.fv (by decide), w28f.1.fv (by decide), w20f.2.2 3 (by decide), w17f.2.2 3 (by decide), w14f.2.2 3 (by decide), w11f.2.1, ← x10f, w8f.1.fv (by decide), w5f.1.fv (by decide), w2f.1.fv (by decide)]
  have g4 : am_fv w100 43 4 = am_fv w 3 4 := by rw [w100f.1.fv (by decide), w92f.1.fv (by decide), w84f.1.fv (by decide), w76f.1.fv (by decide), w68f.1.fv (by decide), w60f.1.fv (by decide), w52f.1.fv (by decide), w44f.1.fv (by decide), w36f.1.fv (by decide), w28f.1.fv (by decide), w20f.2.2 4 (by decide), w17f.2.2 4 (by decide), w14f.2.1, ← x13f, w11f.1.fv (by decide), w8f.1.fv (by decide), w5f.1.fv (by decide), w2f.1.fv (by decide)]
  have g5 : am_fv w100 43 5 = am_fv w 3 5 := by rw [w100f.1.fv (by decide), w92f.1.fv (by decide), w84f.1.fv (by decide), w76f.1.fv (by decide), w68f.1.fv (by decide), w60f.1.fv (by decide), w52f.1.fv (by decide), w44f.1.fv (by decide), w36f.1.fv (by decide), w28f.1.fv (by decide), w20f.2.2 5 (by decide), w17f.2.1, ← y16f, w14f.1.fv (by decide), w11f.1.fv (by decide), w8f.1.fv (by decide), w5f.1.fv (by decide), w2f.1.fv (by decide)]
  have g6 : am_fv w100 43 6 = am_fv w 3 6 := by rw [w100f.1.fv (by decide), w92f.1.fv (by decide), w84f.1.fv (by decide), w76f.1.fv (by decide), w68f.1.fv (by decide), w60f.1.fv (by decide), w52f.1.fv (by decide), w44f.1.fv (by decide), w36f.1.fv (by decide), w28f.1.fv (by decide), w20f.2.1, ← y19f, w17f.1.fv (by decide), w14f.1.fv (by decide), w11f.1.fv (by decide), w8f.1.fv (by decide), w5f.1.fv (by decide), w2f.1.fv (by decide)]
  have r1 : ∀ j, rI w100 44 j = rI w 4 j := fun j => by rw [w100f.1.rIe (by decide), w92f.1.rIe (by decide), w84f.1.rIe (by decide), w76f.1.rIe (by decide), w68f.1.rIe (by decide), w60f.1.rIe (by decide), w52f.1.rIe (by decide), w44f.1.rIe (by decide), w36f.1.rIe (by decide), w28f.2 j, w20f.1.rIe (by decide), w17f.1.rIe (by decide), w14f.1.rIe (by decide), w11f.1.rIe (by decide), w8f.1.rIe (by decide), w5f.1.rIe (by decide), w2f.1.rIe (by decide)]
  have r2 : ∀ j, rI w100 45 j = rI w 5 j := fun j => by rw [w100f.1.rIe (by decide), w92f.1.rIe (by decide), w84f.1.rIe (by decide), w76f.1.rIe (by decide), w68f.1.rIe (by decide), w60f.1.rIe (by decide), w52f.1.rIe (by decide), w44f.1.rIe (by decide), w36f.2 j, w28f.1.rIe (by decide), w20f.1.rIe (by decide), w17f.1.rIe (by decide), w14f.1.rIe (by decide), w11f.1.rIe (by decide), w8f.1.rIe (by decide), w5f.1.rIe (by decide), w2f.1.rIe (by decide)]
  have r3 : ∀ j, rI w100 46 j = rI w 6 j := fun j => by rw [w100f.1.rIe (by decide), w92f.1.rIe (by decide), w84f.1.rIe (by decide), w76f.1.rIe (by decide), w68f.1.rIe (by decide), w60f.1.rIe (by decide), w52f.1.rIe (by decide), w44f.2 j, w36f.1.rIe (by decide), w28f.1.rIe (by decide), w20f.1.rIe (by decide), w17f.1.rIe (by decide), w14f.1.rIe (by decide), w11f.1.rIe (by decide), w8f.1.rIe (by decide), w5f.1.rIe (by decide), w2f.1.rIe (by decide)]
  have r4 : ∀ j, rI w100 47 j = rI w 7 j := fun j => by rw [w100f.1.rIe (by decide), w92f.1.rIe (by decide), w84f.1.rIe (by decide), w76f.1.rIe (by decide), w68f.1.rIe (by decide), w60f.1.rIe (by decide), w52f.2 j, w44f.1.rIe (by decide), w36f.1.rIe (by decide), w28f.1.rIe (by decide), w20f.1.rIe (by decide), w17f.1.rIe (by decide), w14f.1.rIe (by decide), w11f.1.rIe (by decide), w8f.1.rIe (by decide), w5f.1.rIe (by decide), w2f.1.rIe (by decide)]
  have r5 : ∀ j, rI w100 48 j = rI w 8 j := fun j => by rw [w100f.1.rIe (by decide), w92f.1.rIe (by decide), w84f.1.rIe (by decide), w76f.1.rIe (by decide), w68f.1.rIe (by decide), w60f.2 j, w52f.1.rIe (by decide), w44f.1.rIe (by decide), w36f.1.rIe (by decide), w28f.1.rIe (by decide), w20f.1.rIe (by decide), w17f.1.rIe (by decide), w14f.1.rIe (by decide), w11f.1.rIe (by decide), w8f.1.rIe (by decide), w5f.1.rIe (by decide), w2f.1.rIe (by decide)]
  have r6 : ∀ j, rI w100 49 j = rI w 9 j := fun j => by rw [w100f.1.rIe (by decide), w92f.1.rIe (by decide), w84f.1.rIe (by decide), w76f.1.rIe (by decide), w68f.2 j, w60f.1.rIe (by decide), w52f.1.rIe (by decide), w44f.1.rIe (by decide), w36f.1.rIe (by decide), w28f.1.rIe (by decide), w20f.1.rIe (by decide), w17f.1.rIe (by decide), w14f.1.rIe (by decide), w11f.1.rIe (by decide), w8f.1.rIe (by decide), w5f.1.rIe (by decide), w2f.1.rIe (by decide)]
  have r7 : ∀ j, rI w100 50 j = rI w 10 j := fun j => by rw [w100f.1.rIe (by decide), w92f.1.rIe (by decide), w84f.1.rIe (by decide), w76f.2 j, w68f.1.rIe (by decide), w60f.1.rIe (by decide), w52f.1.rIe (by decide), w44f.1.rIe (by decide), w36f.1.rIe (by decide), w28f.1.rIe (by decide), w20f.1.rIe (by decide), w17f.1.rIe (by decide), w14f.1.rIe (by decide), w11f.1.rIe (by decide), w8f.1.rIe (by decide), w5f.1.rIe (by decide), w2f.1.rIe (by decide)]
  have r8 : ∀ j, rI w100 51 j = rI w 11 j := fun j => by rw [w100f.1.rIe (by decide), w92f.1.rIe (by decide), w84f.2 j, w76f.1.rIe (by decide), w68f.1.rIe (by decide), w60f.1.rIe (by decide), w52f.1.rIe (by decide), w44f.1.rIe (by decide), w36f.1.rIe (by decide), w28f.1.rIe (by decide), w20f.1.rIe (by decide), w17f.1.rIe (by decide), w14f.1.rIe (by decide), w11f.1.rIe (by decide), w8f.1.rIe (by decide), w5f.1.rIe (by decide), w2f.1.rIe (by decide)]
  have r9 : ∀ j, rI w100 52 j = rI w 12 j := fun j => by rw [w100f.1.rIe (by decide), w92f.2 j, w84f.1.rIe (by decide), w76f.1.rIe (by decide), w68f.1.rIe (by decide), w60f.1.rIe (by decide), w52f.1.rIe (by decide), w44f.1.rIe (by decide), w36f.1.rIe (by decide), w28f.1.rIe (by decide), w20f.1.rIe (by decide), w17f.1.rIe (by decide), w14f.1.rIe (by decide), w11f.1.rIe (by decide), w8f.1.rIe (by decide), w5f.1.rIe (by decide), w2f.1.rIe (by decide)]
  have r10 : ∀ j, rI w100 53 j = rI w 13 j := fun j => by rw [w100f.2 j, w92f.1.rIe (by decide), w84f.1.rIe (by decide), w76f.1.rIe (by decide), w68f.1.rIe (by decide), w60f.1.rIe (by decide), w52f.1.rIe (by decide), w44f.1.rIe (by decide), w36f.1.rIe (by decide), w28f.1.rIe (by decide), w20f.1.rIe (by decide), w17f.1.rIe (by decide), w14f.1.rIe (by decide), w11f.1.rIe (by decide), w8f.1.rIe (by decide), w5f.1.rIe (by decide), w2f.1.rIe (by decide)]
  have O := (((((((((((((((((w2f.1.sub (qs := [43, 44, 45, 46, 47, 48, 49, 50, 51, 52, 53]) (by decide)).trans (w5f.1.sub (qs := [43, 44, 45, 46, 47, 48, 49, 50, 51, 52, 53]) (by decide))).trans (w8f.1.sub (qs := [43, 44, 45, 46, 47, 48, 49, 50, 51, 52, 53]) (by decide))).trans (w11f.1.sub (qs := [43, 44, 45, 46, 47, 48, 49, 50, 51, 52, 53]) (by decide))).trans (w14f.1.sub (qs := [43, 44, 45, 46, 47, 48, 49, 50, 51, 52, 53]) (by decide))).trans (w17f.1.sub (qs := [43, 44, 45, 46, 47, 48, 49, 50, 51, 52, 53]) (by decide))).trans (w20f.1.sub (qs := [43, 44, 45, 46, 47, 48, 49, 50, 51, 52, 53]) (by decide))).trans (w28f.1.sub (qs := [43, 44, 45, 46, 47, 48, 49, 50, 51, 52, 53]) (by decide))).trans (w36f.1.sub (qs := [43, 44, 45, 46, 47, 48, 49, 50, 51, 52, 53]) (by decide))).trans (w44f.1.sub (qs := [43, 44, 45, 46, 47, 48, 49, 50, 51, 52, 53]) (by decide))).trans (w52f.1.sub (qs := [43, 44, 45, 46, 47, 48, 49, 50, 51, 52, 53]) (by decide))).trans (w60f.1.sub (qs := [43, 44, 45, 46, 47, 48, 49, 50, 51, 52, 53]) (by decide))).trans (w68f.1.sub (qs := [43, 44, 45, 46, 47, 48, 49, 50, 51, 52, 53]) (by decide))).trans (w76f.1.sub (qs := [43, 44, 45, 46, 47, 48, 49, 50, 51, 52, 53]) (by decide))).trans (w84f.1.sub (qs := [43, 44, 45, 46, 47, 48, 49, 50, 51, 52, 53]) (by decide))).trans (w92f.1.sub (qs := [43, 44, 45, 46, 47, 48, 49, 50, 51, 52, 53]) (by decide))).trans (w100f.1.sub (qs := [43, 44, 45, 46, 47, 48, 49, 50, 51, 52, 53]) (by decide)))
  refine ⟨rfl, J101, fun x hx => O x (by simp only [List.mem_cons, List.mem_nil_iff, or_false]; omega), fun k hk => ?_, fun r h1 h2 => ?_⟩
  · rcases (show k = 0 ∨ k = 1 ∨ k = 2 ∨ k = 3 ∨ k = 4 ∨ k = 5 ∨ k = 6 by omega) with rfl | rfl | rfl | rfl | rfl | rfl | rfl
    · exact g0
    · exact g1
    · exact g2
    · exact g3
    · exact g4
    · exact g5
    · exact g6
  · rcases (show r = 1 ∨ r = 2 ∨ r = 3 ∨ r = 4 ∨ r = 5 ∨ r = 6 ∨ r = 7 ∨ r = 8 ∨ r = 9 ∨ r = 10 by omega) with rfl | rfl | rfl | rfl | rfl | rfl | rfl | rfl | rfl | rfl
    · exact r1
    · exact r2
    · exact r3
    · exact r4
    · exact r5
    · exact r6
    · exact r7
    · exact r8
    · exact r9
    · exact r10
theorem e_copy54_3 {d : Nat} {w : am_W} (I : ab_inv ab_TT ab_sets w) : aw none d 37 (fun r w1 => r = none ∧ ab_J ab_TT ab_sets ab_WR2 w w1 ∧ cpyP 54 3 w w1) (0, am_entry 37 [.ref 54, .ref 3], []) w := by
  have J : ab_J ab_TT ab_sets ab_WR2 w w := ⟨I, ab_fr.rf⟩
  show aw none d 37 _ (0, [some (.ref 54), some (.ref 3)], []) w
  refine aw_step (f1 := (1, [some (.ref 54), some (.ref 3)], [(.ref 54)])) (w1 := w) rfl rfl ?_
  refine aw_step (f1 := (2, [some (.ref 54), some (.ref 3)], [(.ref 3), (.ref 54)])) (w1 := w) rfl rfl ?_
  refine s_gi J 5 rfl rfl rfl rfl rfl rfl fun x1 x1a x1b x1f => ?_
  have x1v : x1.toInt = fI w 3 0 := by rw [← fI_of x1f]
  --
  refine s_pi J 8 rfl rfl rfl rfl rfl rfl rfl (by omega) (by omega) fun w2 J3 w2e => ?_
  have w2f := fv_st J.1 (p := 54) (kf := 0) rfl (by decide) w2e
  refine aw_step (f1 := (9, [some (.ref 54), some (.ref 3)], [(.ref 54)])) (w1 := w2) rfl rfl ?_
  refine aw_step (f1 := (10, [some (.ref 54), some (.ref 3)], [(.ref 3), (.ref 54)])) (w1 := w2) rfl rfl ?_
  refine s_gi J3 13 rfl rfl rfl rfl rfl rfl fun x4 x4a x4b x4f => ?_
  have x4v : x4.toInt = fI w 3 1 := by rw [← fI_of x4f, w2f.1.fIe (by decide)]
  --
  refine s_pi J3 16 rfl rfl rfl rfl rfl rfl rfl (by omega) (by omega) fun w5 J6 w5e => ?_
  have w5f := fv_st J3.1 (p := 54) (kf := 1) rfl (by decide) w5e
  refine aw_step (f1 := (17, [some (.ref 54), some (.ref 3)], [(.ref 54)])) (w1 := w5) rfl rfl ?_
  refine aw_step (f1 := (18, [some (.ref 54), some (.ref 3)], [(.ref 3), (.ref 54)])) (w1 := w5) rfl rfl ?_
  refine s_gi J6 21 rfl rfl rfl rfl rfl rfl fun x7 x7a x7b x7f => ?_
  have x7v : x7.toInt = fI w 3 2 := by rw [← fI_of x7f, w5f.1.fIe (by decide), w2f.1.fIe (by decide)]
  --
  refine s_pi J6 24 rfl rfl rfl rfl rfl rfl rfl (by omega) (by omega) fun w8 J9 w8e => ?_
  have w8f := fv_st J6.1 (p := 54) (kf := 2) rfl (by decide) w8e
  refine aw_step (f1 := (25, [some (.ref 54), some (.ref 3)], [(.ref 54)])) (w1 := w8) rfl rfl ?_
  refine aw_step (f1 := (26, [some (.ref 54), some (.ref 3)], [(.ref 3), (.ref 54)])) (w1 := w8) rfl rfl ?_
  refine s_gi J9 29 rfl rfl rfl rfl rfl rfl fun x10 x10a x10b x10f => ?_
  have x10v : x10.toInt = fI w 3 3 := by rw [← fI_of x10f, w8f.1.fIe (by decide), w5f.1.fIe (by decide), w2f.1.fIe (by decide)]
  --
  refine s_pi J9 32 rfl rfl rfl rfl rfl rfl rfl (by omega) (by omega) fun w11 J12 w11e => ?_
  have w11f := fv_st J9.1 (p := 54) (kf := 3) rfl (by decide) w11e
  refine aw_step (f1 := (33, [some (.ref 54), some (.ref 3)], [(.ref 54)])) (w1 := w11) rfl rfl ?_
  refine aw_step (f1 := (34, [some (.ref 54), some (.ref 3)], [(.ref 3), (.ref 54)])) (w1 := w11) rfl rfl ?_
  refine s_gi J12 37 rfl rfl rfl rfl rfl rfl fun x13 x13a x13b x13f => ?_
  have x13v : x13.toInt = fI w 3 4 := by rw [← fI_of x13f, w11f.1.fIe (by decide), w8f.1.fIe (by decide), w5f.1.fIe (by decide), w2f.1.fIe (by decide)]
  --
  refine s_pi J12 40 rfl rfl rfl rfl rfl rfl rfl (by omega) (by omega) fun w14 J15 w14e => ?_
  have w14f := fv_st J12.1 (p := 54) (kf := 4) rfl (by decide) w14e
  refine aw_step (f1 := (41, [some (.ref 54), some (.ref 3)], [(.ref 54)])) (w1 := w14) rfl rfl ?_
  refine aw_step (f1 := (42, [some (.ref 54), some (.ref 3)], [(.ref 3), (.ref 54)])) (w1 := w14) rfl rfl ?_
  refine s_gl J15 45 rfl rfl rfl rfl rfl rfl fun y16 y16a y16b y16f => ?_
  --
  refine s_p J15 48 rfl rfl rfl rfl rfl rfl rfl rfl (Or.inr (Or.inl ⟨rfl, y16, rfl, by show (-9223372036854775808 : Int) ≤ _; first | omega | exact (ab_any64 _).1, by show _ ≤ (9223372036854775807 : Int); first | omega | exact (ab_any64 _).2⟩)) fun w17 J18 w17e => ?_
  have w17f := fv_st J15.1 (p := 54) (kf := 5) rfl (by decide) w17e
  refine aw_step (f1 := (49, [some (.ref 54), some (.ref 3)], [(.ref 54)])) (w1 := w17) rfl rfl ?_
  refine aw_step (f1 := (50, [some (.ref 54), some (.ref 3)], [(.ref 3), (.ref 54)])) (w1 := w17) rfl rfl ?_
  refine s_gl J18 53 rfl rfl rfl rfl rfl rfl fun y19 y19a y19b y19f => ?_
  --
  refine s_p J18 56 rfl rfl rfl rfl rfl rfl rfl rfl (Or.inr (Or.inl ⟨rfl, y19, rfl, by show (-9223372036854775808 : Int) ≤ _; first | omega | exact (ab_any64 _).1, by show _ ≤ (9223372036854775807 : Int); first | omega | exact (ab_any64 _).2⟩)) fun w20 J21 w20e => ?_
  have w20f := fv_st J18.1 (p := 54) (kf := 6) rfl (by decide) w20e
  refine aw_step (f1 := (57, [some (.ref 54), some (.ref 3)], [(.ref 3)])) (w1 := w20) rfl rfl ?_
  refine s_gr 4 J21 60 rfl rfl rfl rfl rfl rfl ?_
  refine s_i (pc1 := 61) (ls1 := [some (.ref 54), some (.ref 3)]) (st1 := [(.ref 4)]) rfl rfl fun x22 e23 => ?_
  have e23t : x22.toInt = 0 := by rw [e23]; rfl
  refine aw_step (f1 := (62, [some (.ref 54), some (.ref 3)], [(.ref 54), (.int x22), (.ref 4)])) (w1 := w20) rfl rfl ?_
  refine s_gr 55 J21 65 rfl rfl rfl rfl rfl rfl ?_
  refine s_i (pc1 := 66) (ls1 := [some (.ref 54), some (.ref 3)]) (st1 := [(.ref 55), (.int x22), (.ref 4)]) rfl rfl fun x24 e25 => ?_
  have e25t : x24.toInt = 0 := by rw [e25]; rfl
  refine s_i (pc1 := 68) (ls1 := [some (.ref 54), some (.ref 3)]) (st1 := [(.int x24), (.ref 55), (.int x22), (.ref 4)]) rfl rfl fun x26 e27 => ?_
  have e27t : x26.toInt = 36 := by rw [e27]; rfl
  refine s_cp J21 71 rfl rfl rfl rfl rfl rfl (by omega) (by omega) (by omega) (Nat.le_of_ble_eq_true rfl) fun w28 J29 w28f => ?_
  refine aw_step (f1 := (72, [some (.ref 54), some (.ref 3)], [(.ref 3)])) (w1 := w28) rfl rfl ?_
  refine s_gr 5 J29 75 rfl rfl rfl rfl rfl rfl ?_
  refine s_i (pc1 := 76) (ls1 := [some (.ref 54), some (.ref 3)]) (st1 := [(.ref 5)]) rfl rfl fun x30 e31 => ?_
  have e31t : x30.toInt = 0 := by rw [e31]; rfl
  refine aw_step (f1 := (77, [some (.ref 54), some (.ref 3)], [(.ref 54), (.int x30), (.ref 5)])) (w1 := w28) rfl rfl ?_
  refine s_gr 56 J29 80 rfl rfl rfl rfl rfl rfl ?_
  refine s_i (pc1 := 81) (ls1 := [some (.ref 54), some (.ref 3)]) (st1 := [(.ref 56), (.int x30), (.ref 5)]) rfl rfl fun x32 e33 => ?_
  have e33t : x32.toInt = 0 := by rw [e33]; rfl
  refine s_i (pc1 := 83) (ls1 := [some (.ref 54), some (.ref 3)]) (st1 := [(.int x32), (.ref 56), (.int x30), (.ref 5)]) rfl rfl fun x34 e35 => ?_
  have e35t : x34.toInt = 36 := by rw [e35]; rfl
  refine s_cp J29 86 rfl rfl rfl rfl rfl rfl (by omega) (by omega) (by omega) (Nat.le_of_ble_eq_true rfl) fun w36 J37 w36f => ?_
  refine aw_step (f1 := (87, [some (.ref 54), some (.ref 3)], [(.ref 3)])) (w1 := w36) rfl rfl ?_
  refine s_gr 6 J37 90 rfl rfl rfl rfl rfl rfl ?_
  refine s_i (pc1 := 91) (ls1 := [some (.ref 54), some (.ref 3)]) (st1 := [(.ref 6)]) rfl rfl fun x38 e39 => ?_
  have e39t : x38.toInt = 0 := by rw [e39]; rfl
  refine aw_step (f1 := (92, [some (.ref 54), some (.ref 3)], [(.ref 54), (.int x38), (.ref 6)])) (w1 := w36) rfl rfl ?_
  refine s_gr 57 J37 95 rfl rfl rfl rfl rfl rfl ?_
  refine s_i (pc1 := 96) (ls1 := [some (.ref 54), some (.ref 3)]) (st1 := [(.ref 57), (.int x38), (.ref 6)]) rfl rfl fun x40 e41 => ?_
  have e41t : x40.toInt = 0 := by rw [e41]; rfl
  refine s_i (pc1 := 98) (ls1 := [some (.ref 54), some (.ref 3)]) (st1 := [(.int x40), (.ref 57), (.int x38), (.ref 6)]) rfl rfl fun x42 e43 => ?_
  have e43t : x42.toInt = 36 := by rw [e43]; rfl
  refine s_cp J37 101 rfl rfl rfl rfl rfl rfl (by omega) (by omega) (by omega) (Nat.le_of_ble_eq_true rfl) fun w44 J45 w44f => ?_
  refine aw_step (f1 := (102, [some (.ref 54), some (.ref 3)], [(.ref 3)])) (w1 := w44) rfl rfl ?_
  refine s_gr 7 J45 105 rfl rfl rfl rfl rfl rfl ?_
  refine s_i (pc1 := 106) (ls1 := [some (.ref 54), some (.ref 3)]) (st1 := [(.ref 7)]) rfl rfl fun x46 e47 => ?_
  have e47t : x46.toInt = 0 := by rw [e47]; rfl
  refine aw_step (f1 := (107, [some (.ref 54), some (.ref 3)], [(.ref 54), (.int x46), (.ref 7)])) (w1 := w44) rfl rfl ?_
  refine s_gr 58 J45 110 rfl rfl rfl rfl rfl rfl ?_
  refine s_i (pc1 := 111) (ls1 := [some (.ref 54), some (.ref 3)]) (st1 := [(.ref 58), (.int x46), (.ref 7)]) rfl rfl fun x48 e49 => ?_
  have e49t : x48.toInt = 0 := by rw [e49]; rfl
  refine s_i (pc1 := 112) (ls1 := [some (.ref 54), some (.ref 3)]) (st1 := [(.int x48), (.ref 58), (.int x46), (.ref 7)]) rfl rfl fun x50 e51 => ?_
  have e51t : x50.toInt = 4 := by rw [e51]; rfl
  refine s_cp J45 115 rfl rfl rfl rfl rfl rfl (by omega) (by omega) (by omega) (Nat.le_of_ble_eq_true rfl) fun w52 J53 w52f => ?_
  refine aw_step (f1 := (116, [some (.ref 54), some (.ref 3)], [(.ref 3)])) (w1 := w52) rfl rfl ?_
  refine s_gr 8 J53 119 rfl rfl rfl rfl rfl rfl ?_
  refine s_i (pc1 := 120) (ls1 := [some (.ref 54), some (.ref 3)]) (st1 := [(.ref 8)]) rfl rfl fun x54 e55 => ?_
  have e55t : x54.toInt = 0 := by rw [e55]; rfl
  refine aw_step (f1 := (121, [some (.ref 54), some (.ref 3)], [(.ref 54), (.int x54), (.ref 8)])) (w1 := w52) rfl rfl ?_
  refine s_gr 59 J53 124 rfl rfl rfl rfl rfl rfl ?_
  refine s_i (pc1 := 125) (ls1 := [some (.ref 54), some (.ref 3)]) (st1 := [(.ref 59), (.int x54), (.ref 8)]) rfl rfl fun x56 e57 => ?_
  have e57t : x56.toInt = 0 := by rw [e57]; rfl
  refine s_i (pc1 := 126) (ls1 := [some (.ref 54), some (.ref 3)]) (st1 := [(.int x56), (.ref 59), (.int x54), (.ref 8)]) rfl rfl fun x58 e59 => ?_
  have e59t : x58.toInt = 4 := by rw [e59]; rfl
  refine s_cp J53 129 rfl rfl rfl rfl rfl rfl (by omega) (by omega) (by omega) (Nat.le_of_ble_eq_true rfl) fun w60 J61 w60f => ?_
  refine aw_step (f1 := (130, [some (.ref 54), some (.ref 3)], [(.ref 3)])) (w1 := w60) rfl rfl ?_
  refine s_gr 9 J61 133 rfl rfl rfl rfl rfl rfl ?_
  refine s_i (pc1 := 134) (ls1 := [some (.ref 54), some (.ref 3)]) (st1 := [(.ref 9)]) rfl rfl fun x62 e63 => ?_
  have e63t : x62.toInt = 0 := by rw [e63]; rfl
  refine aw_step (f1 := (135, [some (.ref 54), some (.ref 3)], [(.ref 54), (.int x62), (.ref 9)])) (w1 := w60) rfl rfl ?_
  refine s_gr 60 J61 138 rfl rfl rfl rfl rfl rfl ?_
  refine s_i (pc1 := 139) (ls1 := [some (.ref 54), some (.ref 3)]) (st1 := [(.ref 60), (.int x62), (.ref 9)]) rfl rfl fun x64 e65 => ?_
  have e65t : x64.toInt = 0 := by rw [e65]; rfl
  refine s_i (pc1 := 140) (ls1 := [some (.ref 54), some (.ref 3)]) (st1 := [(.int x64), (.ref 60), (.int x62), (.ref 9)]) rfl rfl fun x66 e67 => ?_
  have e67t : x66.toInt = 2 := by rw [e67]; rfl
  refine s_cp J61 143 rfl rfl rfl rfl rfl rfl (by omega) (by omega) (by omega) (Nat.le_of_ble_eq_true rfl) fun w68 J69 w68f => ?_
  refine aw_step (f1 := (144, [some (.ref 54), some (.ref 3)], [(.ref 3)])) (w1 := w68) rfl rfl ?_
  refine s_gr 10 J69 147 rfl rfl rfl rfl rfl rfl ?_
  refine s_i (pc1 := 148) (ls1 := [some (.ref 54), some (.ref 3)]) (st1 := [(.ref 10)]) rfl rfl fun x70 e71 => ?_
  have e71t : x70.toInt = 0 := by rw [e71]; rfl
  refine aw_step (f1 := (149, [some (.ref 54), some (.ref 3)], [(.ref 54), (.int x70), (.ref 10)])) (w1 := w68) rfl rfl ?_
  refine s_gr 61 J69 152 rfl rfl rfl rfl rfl rfl ?_
  refine s_i (pc1 := 153) (ls1 := [some (.ref 54), some (.ref 3)]) (st1 := [(.ref 61), (.int x70), (.ref 10)]) rfl rfl fun x72 e73 => ?_
  have e73t : x72.toInt = 0 := by rw [e73]; rfl
  refine s_i (pc1 := 154) (ls1 := [some (.ref 54), some (.ref 3)]) (st1 := [(.int x72), (.ref 61), (.int x70), (.ref 10)]) rfl rfl fun x74 e75 => ?_
  have e75t : x74.toInt = 4 := by rw [e75]; rfl
  refine s_cp J69 157 rfl rfl rfl rfl rfl rfl (by omega) (by omega) (by omega) (Nat.le_of_ble_eq_true rfl) fun w76 J77 w76f => ?_
  refine aw_step (f1 := (158, [some (.ref 54), some (.ref 3)], [(.ref 3)])) (w1 := w76) rfl rfl ?_
  refine s_gr 11 J77 161 rfl rfl rfl rfl rfl rfl ?_
  refine s_i (pc1 := 162) (ls1 := [some (.ref 54), some (.ref 3)]) (st1 := [(.ref 11)]) rfl rfl fun x78 e79 => ?_
  have e79t : x78.toInt = 0 := by rw [e79]; rfl
  refine aw_step (f1 := (163, [some (.ref 54), some (.ref 3)], [(.ref 54), (.int x78), (.ref 11)])) (w1 := w76) rfl rfl ?_
  refine s_gr 62 J77 166 rfl rfl rfl rfl rfl rfl ?_
  refine s_i (pc1 := 167) (ls1 := [some (.ref 54), some (.ref 3)]) (st1 := [(.ref 62), (.int x78), (.ref 11)]) rfl rfl fun x80 e81 => ?_
  have e81t : x80.toInt = 0 := by rw [e81]; rfl
  refine s_i (pc1 := 168) (ls1 := [some (.ref 54), some (.ref 3)]) (st1 := [(.int x80), (.ref 62), (.int x78), (.ref 11)]) rfl rfl fun x82 e83 => ?_
  have e83t : x82.toInt = 4 := by rw [e83]; rfl
  refine s_cp J77 171 rfl rfl rfl rfl rfl rfl (by omega) (by omega) (by omega) (Nat.le_of_ble_eq_true rfl) fun w84 J85 w84f => ?_
  refine aw_step (f1 := (172, [some (.ref 54), some (.ref 3)], [(.ref 3)])) (w1 := w84) rfl rfl ?_
  refine s_gr 12 J85 175 rfl rfl rfl rfl rfl rfl ?_
  refine s_i (pc1 := 176) (ls1 := [some (.ref 54), some (.ref 3)]) (st1 := [(.ref 12)]) rfl rfl fun x86 e87 => ?_
  have e87t : x86.toInt = 0 := by rw [e87]; rfl
  refine aw_step (f1 := (177, [some (.ref 54), some (.ref 3)], [(.ref 54), (.int x86), (.ref 12)])) (w1 := w84) rfl rfl ?_
  refine s_gr 63 J85 180 rfl rfl rfl rfl rfl rfl ?_
  refine s_i (pc1 := 181) (ls1 := [some (.ref 54), some (.ref 3)]) (st1 := [(.ref 63), (.int x86), (.ref 12)]) rfl rfl fun x88 e89 => ?_
  have e89t : x88.toInt = 0 := by rw [e89]; rfl
  refine s_i (pc1 := 183) (ls1 := [some (.ref 54), some (.ref 3)]) (st1 := [(.int x88), (.ref 63), (.int x86), (.ref 12)]) rfl rfl fun x90 e91 => ?_
  have e91t : x90.toInt = 8 := by rw [e91]; rfl
  refine s_cp J85 186 rfl rfl rfl rfl rfl rfl (by omega) (by omega) (by omega) (Nat.le_of_ble_eq_true rfl) fun w92 J93 w92f => ?_
  refine aw_step (f1 := (187, [some (.ref 54), some (.ref 3)], [(.ref 3)])) (w1 := w92) rfl rfl ?_
  refine s_gr 13 J93 190 rfl rfl rfl rfl rfl rfl ?_
  refine s_i (pc1 := 191) (ls1 := [some (.ref 54), some (.ref 3)]) (st1 := [(.ref 13)]) rfl rfl fun x94 e95 => ?_
  have e95t : x94.toInt = 0 := by rw [e95]; rfl
  refine aw_step (f1 := (192, [some (.ref 54), some (.ref 3)], [(.ref 54), (.int x94), (.ref 13)])) (w1 := w92) rfl rfl ?_
  refine s_gr 64 J93 195 rfl rfl rfl rfl rfl rfl ?_
  refine s_i (pc1 := 196) (ls1 := [some (.ref 54), some (.ref 3)]) (st1 := [(.ref 64), (.int x94), (.ref 13)]) rfl rfl fun x96 e97 => ?_
  have e97t : x96.toInt = 0 := by rw [e97]; rfl
  refine s_i (pc1 := 198) (ls1 := [some (.ref 54), some (.ref 3)]) (st1 := [(.int x96), (.ref 64), (.int x94), (.ref 13)]) rfl rfl fun x98 e99 => ?_
  have e99t : x98.toInt = 8 := by rw [e99]; rfl
  refine s_cp J93 201 rfl rfl rfl rfl rfl rfl (by omega) (by omega) (by omega) (Nat.le_of_ble_eq_true rfl) fun w100 J101 w100f => ?_
  refine aw_ret (v := none) rfl rfl ?_
  have g0 : am_fv w100 54 0 = am_fv w 3 0 := by rw [w100f.1.fv (by decide), w92f.1.fv (by decide), w84f.1.fv (by decide), w76f.1.fv (by decide), w68f.1.fv (by decide), w60f.1.fv (by decide), w52f.1.fv (by decide), w44f.1.fv (by decide), w36f.1.fv (by decide), w28f.1.fv (by decide), w20f.2.2 0 (by decide), w17f.2.2 0 (by decide), w14f.2.2 0 (by decide), w11f.2.2 0 (by decide), w8f.2.2 0 (by decide), w5f.2.2 0 (by decide), w2f.2.1, ← x1f]
  have g1 : am_fv w100 54 1 = am_fv w 3 1 := by rw [w100f.1.fv (by decide), w92f.1.fv (by decide), w84f.1.fv (by decide), w76f.1.fv (by decide), w68f.1.fv (by decide), w60f.1.fv (by decide), w52f.1.fv (by decide), w44f.1.fv (by decide), w36f.1.fv (by decide), w28f.1.fv (by decide), w20f.2.2 1 (by decide), w17f.2.2 1 (by decide), w14f.2.2 1 (by decide), w11f.2.2 1 (by decide), w8f.2.2 1 (by decide), w5f.2.1, ← x4f, w2f.1.fv (by decide)]
  have g2 : am_fv w100 54 2 = am_fv w 3 2 := by rw [w100f.1.fv (by decide), w92f.1.fv (by decide), w84f.1.fv (by decide), w76f.1.fv (by decide), w68f.1.fv (by decide), w60f.1.fv (by decide), w52f.1.fv (by decide), w44f.1.fv (by decide), w36f.1.fv (by decide), w28f.1.fv (by decide), w20f.2.2 2 (by decide), w17f.2.2 2 (by decide), w14f.2.2 2 (by decide), w11f.2.2 2 (by decide), w8f.2.1, ← x7f, w5f.1.fv (by decide), w2f.1.fv (by decide)]
  have g3 : am_fv w100 54 3 = am_fv w 3 3 := by rw [w100f.1.fv (by decide), w92f.1.fv (by decide), w84f.1.fv (by decide), w76f.1.fv (by decide), w68f.1.fv (by decide), w60f.1.fv (by decide), w52f.1.fv (by decide), w44f.1.fv (by decide), w36f.1.fv (by decide), w28f.1.fv (by decide), w20f.2.2 3 (by decide), w17f.2.2 3 (by decide), w14f.2.2 3 (by decide), w11f.2.1, ← x10f, w8f.1.fv (by decide), w5f.1.fv (by decide), w2f.1.fv (by decide)]
  have g4 : am_fv w100 54 4 = am_fv w 3 4 := by rw [w100f.1.fv (by decide), w92f.1.fv (by decide), w84f.1.fv (by decide), w76f.1.fv (by decide), w68f.1.fv (by decide), w60f.1.fv (by decide), w52f.1.fv (by decide), w44f.1.fv (by decide), w36f.1.fv (by decide), w28f.1.fv (by decide), w20f.2.2 4 (by decide), w17f.2.2 4 (by decide), w14f.2.1, ← x13f, w11f.1.fv (by decide), w8f.1.fv (by decide), w5f.1.fv (by decide), w2f.1.fv (by decide)]
  have g5 : am_fv w100 54 5 = am_fv w 3 5 := by rw [w100f.1.fv (by decide), w92f.1.fv (by decide), w84f.1.fv (by decide), w76f.1.fv (by decide), w68f.1.fv (by decide), w60f.1.fv (by decide), w52f.1.fv (by decide), w44f.1.fv (by decide), w36f.1.fv (by decide), w28f.1.fv (by decide), w20f.2.2 5 (by decide), w17f.2.1, ← y16f, w14f.1.fv (by decide), w11f.1.fv (by decide), w8f.1.fv (by decide), w5f.1.fv (by decide), w2f.1.fv (by decide)]
  have g6 : am_fv w100 54 6 = am_fv w 3 6 := by rw [w100f.1.fv (by decide), w92f.1.fv (by decide), w84f.1.fv (by decide), w76f.1.fv (by decide), w68f.1.fv (by decide), w60f.1.fv (by decide), w52f.1.fv (by decide), w44f.1.fv (by decide), w36f.1.fv (by decide), w28f.1.fv (by decide), w20f.2.1, ← y19f, w17f.1.fv (by decide), w14f.1.fv (by decide), w11f.1.fv (by decide), w8f.1.fv (by decide), w5f.1.fv (by decide), w2f.1.fv (by decide)]
  have r1 : ∀ j, rI w100 55 j = rI w 4 j := fun j => by rw [w100f.1.rIe (by decide), w92f.1.rIe (by decide), w84f.1.rIe (by decide), w76f.1.rIe (by decide), w68f.1.rIe (by decide), w60f.1.rIe (by decide), w52f.1.rIe (by decide), w44f.1.rIe (by decide), w36f.1.rIe (by decide), w28f.2 j, w20f.1.rIe (by decide), w17f.1.rIe (by decide), w14f.1.rIe (by decide), w11f.1.rIe (by decide), w8f.1.rIe (by decide), w5f.1.rIe (by decide), w2f.1.rIe (by decide)]
  have r2 : ∀ j, rI w100 56 j = rI w 5 j := fun j => by rw [w100f.1.rIe (by decide), w92f.1.rIe (by decide), w84f.1.rIe (by decide), w76f.1.rIe (by decide), w68f.1.rIe (by decide), w60f.1.rIe (by decide), w52f.1.rIe (by decide), w44f.1.rIe (by decide), w36f.2 j, w28f.1.rIe (by decide), w20f.1.rIe (by decide), w17f.1.rIe (by decide), w14f.1.rIe (by decide), w11f.1.rIe (by decide), w8f.1.rIe (by decide), w5f.1.rIe (by decide), w2f.1.rIe (by decide)]
  have r3 : ∀ j, rI w100 57 j = rI w 6 j := fun j => by rw [w100f.1.rIe (by decide), w92f.1.rIe (by decide), w84f.1.rIe (by decide), w76f.1.rIe (by decide), w68f.1.rIe (by decide), w60f.1.rIe (by decide), w52f.1.rIe (by decide), w44f.2 j, w36f.1.rIe (by decide), w28f.1.rIe (by decide), w20f.1.rIe (by decide), w17f.1.rIe (by decide), w14f.1.rIe (by decide), w11f.1.rIe (by decide), w8f.1.rIe (by decide), w5f.1.rIe (by decide), w2f.1.rIe (by decide)]
  have r4 : ∀ j, rI w100 58 j = rI w 7 j := fun j => by rw [w100f.1.rIe (by decide), w92f.1.rIe (by decide), w84f.1.rIe (by decide), w76f.1.rIe (by decide), w68f.1.rIe (by decide), w60f.1.rIe (by decide), w52f.2 j, w44f.1.rIe (by decide), w36f.1.rIe (by decide), w28f.1.rIe (by decide), w20f.1.rIe (by decide), w17f.1.rIe (by decide), w14f.1.rIe (by decide), w11f.1.rIe (by decide), w8f.1.rIe (by decide), w5f.1.rIe (by decide), w2f.1.rIe (by decide)]
  have r5 : ∀ j, rI w100 59 j = rI w 8 j := fun j => by rw [w100f.1.rIe (by decide), w92f.1.rIe (by decide), w84f.1.rIe (by decide), w76f.1.rIe (by decide), w68f.1.rIe (by decide), w60f.2 j, w52f.1.rIe (by decide), w44f.1.rIe (by decide), w36f.1.rIe (by decide), w28f.1.rIe (by decide), w20f.1.rIe (by decide), w17f.1.rIe (by decide), w14f.1.rIe (by decide), w11f.1.rIe (by decide), w8f.1.rIe (by decide), w5f.1.rIe (by decide), w2f.1.rIe (by decide)]
  have r6 : ∀ j, rI w100 60 j = rI w 9 j := fun j => by rw [w100f.1.rIe (by decide), w92f.1.rIe (by decide), w84f.1.rIe (by decide), w76f.1.rIe (by decide), w68f.2 j, w60f.1.rIe (by decide), w52f.1.rIe (by decide), w44f.1.rIe (by decide), w36f.1.rIe (by decide), w28f.1.rIe (by decide), w20f.1.rIe (by decide), w17f.1.rIe (by decide), w14f.1.rIe (by decide), w11f.1.rIe (by decide), w8f.1.rIe (by decide), w5f.1.rIe (by decide), w2f.1.rIe (by decide)]
  have r7 : ∀ j, rI w100 61 j = rI w 10 j := fun j => by rw [w100f.1.rIe (by decide), w92f.1.rIe (by decide), w84f.1.rIe (by decide), w76f.2 j, w68f.1.rIe (by decide), w60f.1.rIe (by decide), w52f.1.rIe (by decide), w44f.1.rIe (by decide), w36f.1.rIe (by decide), w28f.1.rIe (by decide), w20f.1.rIe (by decide), w17f.1.rIe (by decide), w14f.1.rIe (by decide), w11f.1.rIe (by decide), w8f.1.rIe (by decide), w5f.1.rIe (by decide), w2f.1.rIe (by decide)]
  have r8 : ∀ j, rI w100 62 j = rI w 11 j := fun j => by rw [w100f.1.rIe (by decide), w92f.1.rIe (by decide), w84f.2 j, w76f.1.rIe (by decide), w68f.1.rIe (by decide), w60f.1.rIe (by decide), w52f.1.rIe (by decide), w44f.1.rIe (by decide), w36f.1.rIe (by decide), w28f.1.rIe (by decide), w20f.1.rIe (by decide), w17f.1.rIe (by decide), w14f.1.rIe (by decide), w11f.1.rIe (by decide), w8f.1.rIe (by decide), w5f.1.rIe (by decide), w2f.1.rIe (by decide)]
  have r9 : ∀ j, rI w100 63 j = rI w 12 j := fun j => by rw [w100f.1.rIe (by decide), w92f.2 j, w84f.1.rIe (by decide), w76f.1.rIe (by decide), w68f.1.rIe (by decide), w60f.1.rIe (by decide), w52f.1.rIe (by decide), w44f.1.rIe (by decide), w36f.1.rIe (by decide), w28f.1.rIe (by decide), w20f.1.rIe (by decide), w17f.1.rIe (by decide), w14f.1.rIe (by decide), w11f.1.rIe (by decide), w8f.1.rIe (by decide), w5f.1.rIe (by decide), w2f.1.rIe (by decide)]
  have r10 : ∀ j, rI w100 64 j = rI w 13 j := fun j => by rw [w100f.2 j, w92f.1.rIe (by decide), w84f.1.rIe (by decide), w76f.1.rIe (by decide), w68f.1.rIe (by decide), w60f.1.rIe (by decide), w52f.1.rIe (by decide), w44f.1.rIe (by decide), w36f.1.rIe (by decide), w28f.1.rIe (by decide), w20f.1.rIe (by decide), w17f.1.rIe (by decide), w14f.1.rIe (by decide), w11f.1.rIe (by decide), w8f.1.rIe (by decide), w5f.1.rIe (by decide), w2f.1.rIe (by decide)]
  have O := (((((((((((((((((w2f.1.sub (qs := [54, 55, 56, 57, 58, 59, 60, 61, 62, 63, 64]) (by decide)).trans (w5f.1.sub (qs := [54, 55, 56, 57, 58, 59, 60, 61, 62, 63, 64]) (by decide))).trans (w8f.1.sub (qs := [54, 55, 56, 57, 58, 59, 60, 61, 62, 63, 64]) (by decide))).trans (w11f.1.sub (qs := [54, 55, 56, 57, 58, 59, 60, 61, 62, 63, 64]) (by decide))).trans (w14f.1.sub (qs := [54, 55, 56, 57, 58, 59, 60, 61, 62, 63, 64]) (by decide))).trans (w17f.1.sub (qs := [54, 55, 56, 57, 58, 59, 60, 61, 62, 63, 64]) (by decide))).trans (w20f.1.sub (qs := [54, 55, 56, 57, 58, 59, 60, 61, 62, 63, 64]) (by decide))).trans (w28f.1.sub (qs := [54, 55, 56, 57, 58, 59, 60, 61, 62, 63, 64]) (by decide))).trans (w36f.1.sub (qs := [54, 55, 56, 57, 58, 59, 60, 61, 62, 63, 64]) (by decide))).trans (w44f.1.sub (qs := [54, 55, 56, 57, 58, 59, 60, 61, 62, 63, 64]) (by decide))).trans (w52f.1.sub (qs := [54, 55, 56, 57, 58, 59, 60, 61, 62, 63, 64]) (by decide))).trans (w60f.1.sub (qs := [54, 55, 56, 57, 58, 59, 60, 61, 62, 63, 64]) (by decide))).trans (w68f.1.sub (qs := [54, 55, 56, 57, 58, 59, 60, 61, 62, 63, 64]) (by decide))).trans (w76f.1.sub (qs := [54, 55, 56, 57, 58, 59, 60, 61, 62, 63, 64]) (by decide))).trans (w84f.1.sub (qs := [54, 55, 56, 57, 58, 59, 60, 61, 62, 63, 64]) (by decide))).trans (w92f.1.sub (qs := [54, 55, 56, 57, 58, 59, 60, 61, 62, 63, 64]) (by decide))).trans (w100f.1.sub (qs := [54, 55, 56, 57, 58, 59, 60, 61, 62, 63, 64]) (by decide)))
  refine ⟨rfl, J101, fun x hx => O x (by simp only [List.mem_cons, List.mem_nil_iff, or_false]; omega), fun k hk => ?_, fun r h1 h2 => ?_⟩
  · rcases (show k = 0 ∨ k = 1 ∨ k = 2 ∨ k = 3 ∨ k = 4 ∨ k = 5 ∨ k = 6 by omega) with rfl | rfl | rfl | rfl | rfl | rfl | rfl
    · exact g0
    · exact g1
    · exact g2
    · exact g3
    · exact g4
    · exact g5
    · exact g6
  · rcases (show r = 1 ∨ r = 2 ∨ r = 3 ∨ r = 4 ∨ r = 5 ∨ r = 6 ∨ r = 7 ∨ r = 8 ∨ r = 9 ∨ r = 10 by omega) with rfl | rfl | rfl | rfl | rfl | rfl | rfl | rfl | rfl | rfl
    · exact r1
    · exact r2
    · exact r3
    · exact r4
    · exact r5
    · exact r6
    · exact r7
    · exact r8
    · exact r9
    · exact r10
theorem e_copy3_43 {d : Nat} {w : am_W} (I : ab_inv ab_TT ab_sets w) : aw none d 37 (fun r w1 => r = none ∧ ab_J ab_TT ab_sets ab_WR2 w w1 ∧ cpyP 3 43 w w1) (0, am_entry 37 [.ref 3, .ref 43], []) w := by
  have J : ab_J ab_TT ab_sets ab_WR2 w w := ⟨I, ab_fr.rf⟩
  show aw none d 37 _ (0, [some (.ref 3), some (.ref 43)], []) w
  refine aw_step (f1 := (1, [some (.ref 3), some (.ref 43)], [(.ref 3)])) (w1 := w) rfl rfl ?_
  refine aw_step (f1 := (2, [some (.ref 3), some (.ref 43)], [(.ref 43), (.ref 3)])) (w1 := w) rfl rfl ?_
  refine s_gi J 5 rfl rfl rfl rfl rfl rfl fun x1 x1a x1b x1f => ?_
  have x1v : x1.toInt = fI w 43 0 := by rw [← fI_of x1f]
  --
  refine s_pi J 8 rfl rfl rfl rfl rfl rfl rfl (by omega) (by omega) fun w2 J3 w2e => ?_
  have w2f := fv_st J.1 (p := 3) (kf := 0) rfl (by decide) w2e
  refine aw_step (f1 := (9, [some (.ref 3), some (.ref 43)], [(.ref 3)])) (w1 := w2) rfl rfl ?_
  refine aw_step (f1 := (10, [some (.ref 3), some (.ref 43)], [(.ref 43), (.ref 3)])) (w1 := w2) rfl rfl ?_
  refine s_gi J3 13 rfl rfl rfl rfl rfl rfl fun x4 x4a x4b x4f => ?_
  have x4v : x4.toInt = fI w 43 1 := by rw [← fI_of x4f, w2f.1.fIe (by decide)]
  --
  refine s_pi J3 16 rfl rfl rfl rfl rfl rfl rfl (by omega) (by omega) fun w5 J6 w5e => ?_
  have w5f := fv_st J3.1 (p := 3) (kf := 1) rfl (by decide) w5e
  refine aw_step (f1 := (17, [some (.ref 3), some (.ref 43)], [(.ref 3)])) (w1 := w5) rfl rfl ?_
  refine aw_step (f1 := (18, [some (.ref 3), some (.ref 43)], [(.ref 43), (.ref 3)])) (w1 := w5) rfl rfl ?_
  refine s_gi J6 21 rfl rfl rfl rfl rfl rfl fun x7 x7a x7b x7f => ?_
  have x7v : x7.toInt = fI w 43 2 := by rw [← fI_of x7f, w5f.1.fIe (by decide), w2f.1.fIe (by decide)]
  --
  refine s_pi J6 24 rfl rfl rfl rfl rfl rfl rfl (by omega) (by omega) fun w8 J9 w8e => ?_
  have w8f := fv_st J6.1 (p := 3) (kf := 2) rfl (by decide) w8e
  refine aw_step (f1 := (25, [some (.ref 3), some (.ref 43)], [(.ref 3)])) (w1 := w8) rfl rfl ?_
  refine aw_step (f1 := (26, [some (.ref 3), some (.ref 43)], [(.ref 43), (.ref 3)])) (w1 := w8) rfl rfl ?_
  refine s_gi J9 29 rfl rfl rfl rfl rfl rfl fun x10 x10a x10b x10f => ?_
  have x10v : x10.toInt = fI w 43 3 := by rw [← fI_of x10f, w8f.1.fIe (by decide), w5f.1.fIe (by decide), w2f.1.fIe (by decide)]
  --
  refine s_pi J9 32 rfl rfl rfl rfl rfl rfl rfl (by omega) (by omega) fun w11 J12 w11e => ?_
  have w11f := fv_st J9.1 (p := 3) (kf := 3) rfl (by decide) w11e
  refine aw_step (f1 := (33, [some (.ref 3), some (.ref 43)], [(.ref 3)])) (w1 := w11) rfl rfl ?_
  refine aw_step (f1 := (34, [some (.ref 3), some (.ref 43)], [(.ref 43), (.ref 3)])) (w1 := w11) rfl rfl ?_
  refine s_gi J12 37 rfl rfl rfl rfl rfl rfl fun x13 x13a x13b x13f => ?_
  have x13v : x13.toInt = fI w 43 4 := by rw [← fI_of x13f, w11f.1.fIe (by decide), w8f.1.fIe (by decide), w5f.1.fIe (by decide), w2f.1.fIe (by decide)]
  --
  refine s_pi J12 40 rfl rfl rfl rfl rfl rfl rfl (by omega) (by omega) fun w14 J15 w14e => ?_
  have w14f := fv_st J12.1 (p := 3) (kf := 4) rfl (by decide) w14e
  refine aw_step (f1 := (41, [some (.ref 3), some (.ref 43)], [(.ref 3)])) (w1 := w14) rfl rfl ?_
  refine aw_step (f1 := (42, [some (.ref 3), some (.ref 43)], [(.ref 43), (.ref 3)])) (w1 := w14) rfl rfl ?_
  refine s_gl J15 45 rfl rfl rfl rfl rfl rfl fun y16 y16a y16b y16f => ?_
  --
  refine s_p J15 48 rfl rfl rfl rfl rfl rfl rfl rfl (Or.inr (Or.inl ⟨rfl, y16, rfl, by show (-9223372036854775808 : Int) ≤ _; first | omega | exact (ab_any64 _).1, by show _ ≤ (9223372036854775807 : Int); first | omega | exact (ab_any64 _).2⟩)) fun w17 J18 w17e => ?_
  have w17f := fv_st J15.1 (p := 3) (kf := 5) rfl (by decide) w17e
  refine aw_step (f1 := (49, [some (.ref 3), some (.ref 43)], [(.ref 3)])) (w1 := w17) rfl rfl ?_
  refine aw_step (f1 := (50, [some (.ref 3), some (.ref 43)], [(.ref 43), (.ref 3)])) (w1 := w17) rfl rfl ?_
  refine s_gl J18 53 rfl rfl rfl rfl rfl rfl fun y19 y19a y19b y19f => ?_
  --
  refine s_p J18 56 rfl rfl rfl rfl rfl rfl rfl rfl (Or.inr (Or.inl ⟨rfl, y19, rfl, by show (-9223372036854775808 : Int) ≤ _; first | omega | exact (ab_any64 _).1, by show _ ≤ (9223372036854775807 : Int); first | omega | exact (ab_any64 _).2⟩)) fun w20 J21 w20e => ?_
  have w20f := fv_st J18.1 (p := 3) (kf := 6) rfl (by decide) w20e
  refine aw_step (f1 := (57, [some (.ref 3), some (.ref 43)], [(.ref 43)])) (w1 := w20) rfl rfl ?_
  refine s_gr 44 J21 60 rfl rfl rfl rfl rfl rfl ?_
  refine s_i (pc1 := 61) (ls1 := [some (.ref 3), some (.ref 43)]) (st1 := [(.ref 44)]) rfl rfl fun x22 e23 => ?_
  have e23t : x22.toInt = 0 := by rw [e23]; rfl
  refine aw_step (f1 := (62, [some (.ref 3), some (.ref 43)], [(.ref 3), (.int x22), (.ref 44)])) (w1 := w20) rfl rfl ?_
  refine s_gr 4 J21 65 rfl rfl rfl rfl rfl rfl ?_
  refine s_i (pc1 := 66) (ls1 := [some (.ref 3), some (.ref 43)]) (st1 := [(.ref 4), (.int x22), (.ref 44)]) rfl rfl fun x24 e25 => ?_
  have e25t : x24.toInt = 0 := by rw [e25]; rfl
  refine s_i (pc1 := 68) (ls1 := [some (.ref 3), some (.ref 43)]) (st1 := [(.int x24), (.ref 4), (.int x22), (.ref 44)]) rfl rfl fun x26 e27 => ?_
  have e27t : x26.toInt = 36 := by rw [e27]; rfl
  refine s_cp J21 71 rfl rfl rfl rfl rfl rfl (by omega) (by omega) (by omega) (Nat.le_of_ble_eq_true rfl) fun w28 J29 w28f => ?_
  refine aw_step (f1 := (72, [some (.ref 3), some (.ref 43)], [(.ref 43)])) (w1 := w28) rfl rfl ?_
  refine s_gr 45 J29 75 rfl rfl rfl rfl rfl rfl ?_
  refine s_i (pc1 := 76) (ls1 := [some (.ref 3), some (.ref 43)]) (st1 := [(.ref 45)]) rfl rfl fun x30 e31 => ?_
  have e31t : x30.toInt = 0 := by rw [e31]; rfl
  refine aw_step (f1 := (77, [some (.ref 3), some (.ref 43)], [(.ref 3), (.int x30), (.ref 45)])) (w1 := w28) rfl rfl ?_
  refine s_gr 5 J29 80 rfl rfl rfl rfl rfl rfl ?_
  refine s_i (pc1 := 81) (ls1 := [some (.ref 3), some (.ref 43)]) (st1 := [(.ref 5), (.int x30), (.ref 45)]) rfl rfl fun x32 e33 => ?_
  have e33t : x32.toInt = 0 := by rw [e33]; rfl
  refine s_i (pc1 := 83) (ls1 := [some (.ref 3), some (.ref 43)]) (st1 := [(.int x32), (.ref 5), (.int x30), (.ref 45)]) rfl rfl fun x34 e35 => ?_
  have e35t : x34.toInt = 36 := by rw [e35]; rfl
  refine s_cp J29 86 rfl rfl rfl rfl rfl rfl (by omega) (by omega) (by omega) (Nat.le_of_ble_eq_true rfl) fun w36 J37 w36f => ?_
  refine aw_step (f1 := (87, [some (.ref 3), some (.ref 43)], [(.ref 43)])) (w1 := w36) rfl rfl ?_
  refine s_gr 46 J37 90 rfl rfl rfl rfl rfl rfl ?_
  refine s_i (pc1 := 91) (ls1 := [some (.ref 3), some (.ref 43)]) (st1 := [(.ref 46)]) rfl rfl fun x38 e39 => ?_
  have e39t : x38.toInt = 0 := by rw [e39]; rfl
  refine aw_step (f1 := (92, [some (.ref 3), some (.ref 43)], [(.ref 3), (.int x38), (.ref 46)])) (w1 := w36) rfl rfl ?_
  refine s_gr 6 J37 95 rfl rfl rfl rfl rfl rfl ?_
  refine s_i (pc1 := 96) (ls1 := [some (.ref 3), some (.ref 43)]) (st1 := [(.ref 6), (.int x38), (.ref 46)]) rfl rfl fun x40 e41 => ?_
  have e41t : x40.toInt = 0 := by rw [e41]; rfl
  refine s_i (pc1 := 98) (ls1 := [some (.ref 3), some (.ref 43)]) (st1 := [(.int x40), (.ref 6), (.int x38), (.ref 46)]) rfl rfl fun x42 e43 => ?_
  have e43t : x42.toInt = 36 := by rw [e43]; rfl
  refine s_cp J37 101 rfl rfl rfl rfl rfl rfl (by omega) (by omega) (by omega) (Nat.le_of_ble_eq_true rfl) fun w44 J45 w44f => ?_
  refine aw_step (f1 := (102, [some (.ref 3), some (.ref 43)], [(.ref 43)])) (w1 := w44) rfl rfl ?_
  refine s_gr 47 J45 105 rfl rfl rfl rfl rfl rfl ?_
  refine s_i (pc1 := 106) (ls1 := [some (.ref 3), some (.ref 43)]) (st1 := [(.ref 47)]) rfl rfl fun x46 e47 => ?_
  have e47t : x46.toInt = 0 := by rw [e47]; rfl
  refine aw_step (f1 := (107, [some (.ref 3), some (.ref 43)], [(.ref 3), (.int x46), (.ref 47)])) (w1 := w44) rfl rfl ?_
  refine s_gr 7 J45 110 rfl rfl rfl rfl rfl rfl ?_
  refine s_i (pc1 := 111) (ls1 := [some (.ref 3), some (.ref 43)]) (st1 := [(.ref 7), (.int x46), (.ref 47)]) rfl rfl fun x48 e49 => ?_
  have e49t : x48.toInt = 0 := by rw [e49]; rfl
  refine s_i (pc1 := 112) (ls1 := [some (.ref 3), some (.ref 43)]) (st1 := [(.int x48), (.ref 7), (.int x46), (.ref 47)]) rfl rfl fun x50 e51 => ?_
  have e51t : x50.toInt = 4 := by rw [e51]; rfl
  refine s_cp J45 115 rfl rfl rfl rfl rfl rfl (by omega) (by omega) (by omega) (Nat.le_of_ble_eq_true rfl) fun w52 J53 w52f => ?_
  refine aw_step (f1 := (116, [some (.ref 3), some (.ref 43)], [(.ref 43)])) (w1 := w52) rfl rfl ?_
  refine s_gr 48 J53 119 rfl rfl rfl rfl rfl rfl ?_
  refine s_i (pc1 := 120) (ls1 := [some (.ref 3), some (.ref 43)]) (st1 := [(.ref 48)]) rfl rfl fun x54 e55 => ?_
  have e55t : x54.toInt = 0 := by rw [e55]; rfl
  refine aw_step (f1 := (121, [some (.ref 3), some (.ref 43)], [(.ref 3), (.int x54), (.ref 48)])) (w1 := w52) rfl rfl ?_
  refine s_gr 8 J53 124 rfl rfl rfl rfl rfl rfl ?_
  refine s_i (pc1 := 125) (ls1 := [some (.ref 3), some (.ref 43)]) (st1 := [(.ref 8), (.int x54), (.ref 48)]) rfl rfl fun x56 e57 => ?_
  have e57t : x56.toInt = 0 := by rw [e57]; rfl
  refine s_i (pc1 := 126) (ls1 := [some (.ref 3), some (.ref 43)]) (st1 := [(.int x56), (.ref 8), (.int x54), (.ref 48)]) rfl rfl fun x58 e59 => ?_
  have e59t : x58.toInt = 4 := by rw [e59]; rfl
  refine s_cp J53 129 rfl rfl rfl rfl rfl rfl (by omega) (by omega) (by omega) (Nat.le_of_ble_eq_true rfl) fun w60 J61 w60f => ?_
  refine aw_step (f1 := (130, [some (.ref 3), some (.ref 43)], [(.ref 43)])) (w1 := w60) rfl rfl ?_
  refine s_gr 49 J61 133 rfl rfl rfl rfl rfl rfl ?_
  refine s_i (pc1 := 134) (ls1 := [some (.ref 3), some (.ref 43)]) (st1 := [(.ref 49)]) rfl rfl fun x62 e63 => ?_
  have e63t : x62.toInt = 0 := by rw [e63]; rfl
  refine aw_step (f1 := (135, [some (.ref 3), some (.ref 43)], [(.ref 3), (.int x62), (.ref 49)])) (w1 := w60) rfl rfl ?_
  refine s_gr 9 J61 138 rfl rfl rfl rfl rfl rfl ?_
  refine s_i (pc1 := 139) (ls1 := [some (.ref 3), some (.ref 43)]) (st1 := [(.ref 9), (.int x62), (.ref 49)]) rfl rfl fun x64 e65 => ?_
  have e65t : x64.toInt = 0 := by rw [e65]; rfl
  refine s_i (pc1 := 140) (ls1 := [some (.ref 3), some (.ref 43)]) (st1 := [(.int x64), (.ref 9), (.int x62), (.ref 49)]) rfl rfl fun x66 e67 => ?_
  have e67t : x66.toInt = 2 := by rw [e67]; rfl
  refine s_cp J61 143 rfl rfl rfl rfl rfl rfl (by omega) (by omega) (by omega) (Nat.le_of_ble_eq_true rfl) fun w68 J69 w68f => ?_
  refine aw_step (f1 := (144, [some (.ref 3), some (.ref 43)], [(.ref 43)])) (w1 := w68) rfl rfl ?_
  refine s_gr 50 J69 147 rfl rfl rfl rfl rfl rfl ?_
  refine s_i (pc1 := 148) (ls1 := [some (.ref 3), some (.ref 43)]) (st1 := [(.ref 50)]) rfl rfl fun x70 e71 => ?_
  have e71t : x70.toInt = 0 := by rw [e71]; rfl
  refine aw_step (f1 := (149, [some (.ref 3), some (.ref 43)], [(.ref 3), (.int x70), (.ref 50)])) (w1 := w68) rfl rfl ?_
  refine s_gr 10 J69 152 rfl rfl rfl rfl rfl rfl ?_
  refine s_i (pc1 := 153) (ls1 := [some (.ref 3), some (.ref 43)]) (st1 := [(.ref 10), (.int x70), (.ref 50)]) rfl rfl fun x72 e73 => ?_
  have e73t : x72.toInt = 0 := by rw [e73]; rfl
  refine s_i (pc1 := 154) (ls1 := [some (.ref 3), some (.ref 43)]) (st1 := [(.int x72), (.ref 10), (.int x70), (.ref 50)]) rfl rfl fun x74 e75 => ?_
  have e75t : x74.toInt = 4 := by rw [e75]; rfl
  refine s_cp J69 157 rfl rfl rfl rfl rfl rfl (by omega) (by omega) (by omega) (Nat.le_of_ble_eq_true rfl) fun w76 J77 w76f => ?_
  refine aw_step (f1 := (158, [some (.ref 3), some (.ref 43)], [(.ref 43)])) (w1 := w76) rfl rfl ?_
  refine s_gr 51 J77 161 rfl rfl rfl rfl rfl rfl ?_
  refine s_i (pc1 := 162) (ls1 := [some (.ref 3), some (.ref 43)]) (st1 := [(.ref 51)]) rfl rfl fun x78 e79 => ?_
  have e79t : x78.toInt = 0 := by rw [e79]; rfl
  refine aw_step (f1 := (163, [some (.ref 3), some (.ref 43)], [(.ref 3), (.int x78), (.ref 51)])) (w1 := w76) rfl rfl ?_
  refine s_gr 11 J77 166 rfl rfl rfl rfl rfl rfl ?_
  refine s_i (pc1 := 167) (ls1 := [some (.ref 3), some (.ref 43)]) (st1 := [(.ref 11), (.int x78), (.ref 51)]) rfl rfl fun x80 e81 => ?_
  have e81t : x80.toInt = 0 := by rw [e81]; rfl
  refine s_i (pc1 := 168) (ls1 := [some (.ref 3), some (.ref 43)]) (st1 := [(.int x80), (.ref 11), (.int x78), (.ref 51)]) rfl rfl fun x82 e83 => ?_
  have e83t : x82.toInt = 4 := by rw [e83]; rfl
  refine s_cp J77 171 rfl rfl rfl rfl rfl rfl (by omega) (by omega) (by omega) (Nat.le_of_ble_eq_true rfl) fun w84 J85 w84f => ?_
  refine aw_step (f1 := (172, [some (.ref 3), some (.ref 43)], [(.ref 43)])) (w1 := w84) rfl rfl ?_
  refine s_gr 52 J85 175 rfl rfl rfl rfl rfl rfl ?_
  refine s_i (pc1 := 176) (ls1 := [some (.ref 3), some (.ref 43)]) (st1 := [(.ref 52)]) rfl rfl fun x86 e87 => ?_
  have e87t : x86.toInt = 0 := by rw [e87]; rfl
  refine aw_step (f1 := (177, [some (.ref 3), some (.ref 43)], [(.ref 3), (.int x86), (.ref 52)])) (w1 := w84) rfl rfl ?_
  refine s_gr 12 J85 180 rfl rfl rfl rfl rfl rfl ?_
  refine s_i (pc1 := 181) (ls1 := [some (.ref 3), some (.ref 43)]) (st1 := [(.ref 12), (.int x86), (.ref 52)]) rfl rfl fun x88 e89 => ?_
  have e89t : x88.toInt = 0 := by rw [e89]; rfl
  refine s_i (pc1 := 183) (ls1 := [some (.ref 3), some (.ref 43)]) (st1 := [(.int x88), (.ref 12), (.int x86), (.ref 52)]) rfl rfl fun x90 e91 => ?_
  have e91t : x90.toInt = 8 := by rw [e91]; rfl
  refine s_cp J85 186 rfl rfl rfl rfl rfl rfl (by omega) (by omega) (by omega) (Nat.le_of_ble_eq_true rfl) fun w92 J93 w92f => ?_
  refine aw_step (f1 := (187, [some (.ref 3), some (.ref 43)], [(.ref 43)])) (w1 := w92) rfl rfl ?_
  refine s_gr 53 J93 190 rfl rfl rfl rfl rfl rfl ?_
  refine s_i (pc1 := 191) (ls1 := [some (.ref 3), some (.ref 43)]) (st1 := [(.ref 53)]) rfl rfl fun x94 e95 => ?_
  have e95t : x94.toInt = 0 := by rw [e95]; rfl
  refine aw_step (f1 := (192, [some (.ref 3), some (.ref 43)], [(.ref 3), (.int x94), (.ref 53)])) (w1 := w92) rfl rfl ?_
  refine s_gr 13 J93 195 rfl rfl rfl rfl rfl rfl ?_
  refine s_i (pc1 := 196) (ls1 := [some (.ref 3), some (.ref 43)]) (st1 := [(.ref 13), (.int x94), (.ref 53)]) rfl rfl fun x96 e97 => ?_
  have e97t : x96.toInt = 0 := by rw [e97]; rfl
  refine s_i (pc1 := 198) (ls1 := [some (.ref 3), some (.ref 43)]) (st1 := [(.int x96), (.ref 13), (.int x94), (.ref 53)]) rfl rfl fun x98 e99 => ?_
  have e99t : x98.toInt = 8 := by rw [e99]; rfl
  refine s_cp J93 201 rfl rfl rfl rfl rfl rfl (by omega) (by omega) (by omega) (Nat.le_of_ble_eq_true rfl) fun w100 J101 w100f => ?_
  refine aw_ret (v := none) rfl rfl ?_
  have g0 : am_fv w100 3 0 = am_fv w 43 0 := by rw [w100f.1.fv (by decide), w92f.1.fv (by decide), w84f.1.fv (by decide), w76f.1.fv (by decide), w68f.1.fv (by decide), w60f.1.fv (by decide), w52f.1.fv (by decide), w44f.1.fv (by decide), w36f.1.fv (by decide), w28f.1.fv (by decide), w20f.2.2 0 (by decide), w17f.2.2 0 (by decide), w14f.2.2 0 (by decide), w11f.2.2 0 (by decide), w8f.2.2 0 (by decide), w5f.2.2 0 (by decide), w2f.2.1, ← x1f]
  have g1 : am_fv w100 3 1 = am_fv w 43 1 := by rw [w100f.1.fv (by decide), w92f.1.fv (by decide), w84f.1.fv (by decide), w76f.1.fv (by decide), w68f.1.fv (by decide), w60f.1.fv (by decide), w52f.1.fv (by decide), w44f.1.fv (by decide), w36f.1.fv (by decide), w28f.1.fv (by decide), w20f.2.2 1 (by decide), w17f.2.2 1 (by decide), w14f.2.2 1 (by decide), w11f.2.2 1 (by decide), w8f.2.2 1 (by decide), w5f.2.1, ← x4f, w2f.1.fv (by decide)]
  have g2 : am_fv w100 3 2 = am_fv w 43 2 := by rw [w100f.1.fv (by decide), w92f.1.fv (by decide), w84f.1.fv (by decide), w76f.1.fv (by decide), w68f.1.fv (by decide), w60f.1.fv (by decide), w52f.1.fv (by decide), w44f.1.fv (by decide), w36f.1.fv (by decide), w28f.1.fv (by decide), w20f.2.2 2 (by decide), w17f.2.2 2 (by decide), w14f.2.2 2 (by decide), w11f.2.2 2 (by decide), w8f.2.1, ← x7f, w5f.1.fv (by decide), w2f.1.fv (by decide)]
  have g3 : am_fv w100 3 3 = am_fv w 43 3 := by rw [w100f.1.fv (by decide), w92f.1.fv (by decide), w84f.1.fv (by decide), w76f.1.fv (by decide), w68f.1.fv (by decide), w60f.1.fv (by decide), w52f.1.fv (by decide), w44f.1.fv (by decide), w36f.1.fv (by decide), w28f.1.fv (by decide), w20f.2.2 3 (by decide), w17f.2.2 3 (by decide), w14f.2.2 3 (by decide), w11f.2.1, ← x10f, w8f.1.fv (by decide), w5f.1.fv (by decide), w2f.1.fv (by decide)]
  have g4 : am_fv w100 3 4 = am_fv w 43 4 := by rw [w100f.1.fv (by decide), w92f.1.fv (by decide), w84f.1.fv (by decide), w76f.1.fv (by decide), w68f.1.fv (by decide), w60f.1.fv (by decide), w52f.1.fv (by decide), w44f.1.fv (by decide), w36f.1.fv (by decide), w28f.1.fv (by decide), w20f.2.2 4 (by decide), w17f.2.2 4 (by decide), w14f.2.1, ← x13f, w11f.1.fv (by decide), w8f.1.fv (by decide), w5f.1.fv (by decide), w2f.1.fv (by decide)]
  have g5 : am_fv w100 3 5 = am_fv w 43 5 := by rw [w100f.1.fv (by decide), w92f.1.fv (by decide), w84f.1.fv (by decide), w76f.1.fv (by decide), w68f.1.fv (by decide), w60f.1.fv (by decide), w52f.1.fv (by decide), w44f.1.fv (by decide), w36f.1.fv (by decide), w28f.1.fv (by decide), w20f.2.2 5 (by decide), w17f.2.1, ← y16f, w14f.1.fv (by decide), w11f.1.fv (by decide), w8f.1.fv (by decide), w5f.1.fv (by decide), w2f.1.fv (by decide)]
  have g6 : am_fv w100 3 6 = am_fv w 43 6 := by rw [w100f.1.fv (by decide), w92f.1.fv (by decide), w84f.1.fv (by decide), w76f.1.fv (by decide), w68f.1.fv (by decide), w60f.1.fv (by decide), w52f.1.fv (by decide), w44f.1.fv (by decide), w36f.1.fv (by decide), w28f.1.fv (by decide), w20f.2.1, ← y19f, w17f.1.fv (by decide), w14f.1.fv (by decide), w11f.1.fv (by decide), w8f.1.fv (by decide), w5f.1.fv (by decide), w2f.1.fv (by decide)]
  have r1 : ∀ j, rI w100 4 j = rI w 44 j := fun j => by rw [w100f.1.rIe (by decide), w92f.1.rIe (by decide), w84f.1.rIe (by decide), w76f.1.rIe (by decide), w68f.1.rIe (by decide), w60f.1.rIe (by decide), w52f.1.rIe (by decide), w44f.1.rIe (by decide), w36f.1.rIe (by decide), w28f.2 j, w20f.1.rIe (by decide), w17f.1.rIe (by decide), w14f.1.rIe (by decide), w11f.1.rIe (by decide), w8f.1.rIe (by decide), w5f.1.rIe (by decide), w2f.1.rIe (by decide)]
  have r2 : ∀ j, rI w100 5 j = rI w 45 j := fun j => by rw [w100f.1.rIe (by decide), w92f.1.rIe (by decide), w84f.1.rIe (by decide), w76f.1.rIe (by decide), w68f.1.rIe (by decide), w60f.1.rIe (by decide), w52f.1.rIe (by decide), w44f.1.rIe (by decide), w36f.2 j, w28f.1.rIe (by decide), w20f.1.rIe (by decide), w17f.1.rIe (by decide), w14f.1.rIe (by decide), w11f.1.rIe (by decide), w8f.1.rIe (by decide), w5f.1.rIe (by decide), w2f.1.rIe (by decide)]
  have r3 : ∀ j, rI w100 6 j = rI w 46 j := fun j => by rw [w100f.1.rIe (by decide), w92f.1.rIe (by decide), w84f.1.rIe (by decide), w76f.1.rIe (by decide), w68f.1.rIe (by decide), w60f.1.rIe (by decide), w52f.1.rIe (by decide), w44f.2 j, w36f.1.rIe (by decide), w28f.1.rIe (by decide), w20f.1.rIe (by decide), w17f.1.rIe (by decide), w14f.1.rIe (by decide), w11f.1.rIe (by decide), w8f.1.rIe (by decide), w5f.1.rIe (by decide), w2f.1.rIe (by decide)]
  have r4 : ∀ j, rI w100 7 j = rI w 47 j := fun j => by rw [w100f.1.rIe (by decide), w92f.1.rIe (by decide), w84f.1.rIe (by decide), w76f.1.rIe (by decide), w68f.1.rIe (by decide), w60f.1.rIe (by decide), w52f.2 j, w44f.1.rIe (by decide), w36f.1.rIe (by decide), w28f.1.rIe (by decide), w20f.1.rIe (by decide), w17f.1.rIe (by decide), w14f.1.rIe (by decide), w11f.1.rIe (by decide), w8f.1.rIe (by decide), w5f.1.rIe (by decide), w2f.1.rIe (by decide)]
  have r5 : ∀ j, rI w100 8 j = rI w 48 j := fun j => by rw [w100f.1.rIe (by decide), w92f.1.rIe (by decide), w84f.1.rIe (by decide), w76f.1.rIe (by decide), w68f.1.rIe (by decide), w60f.2 j, w52f.1.rIe (by decide), w44f.1.rIe (by decide), w36f.1.rIe (by decide), w28f.1.rIe (by decide), w20f.1.rIe (by decide), w17f.1.rIe (by decide), w14f.1.rIe (by decide), w11f.1.rIe (by decide), w8f.1.rIe (by decide), w5f.1.rIe (by decide), w2f.1.rIe (by decide)]
  have r6 : ∀ j, rI w100 9 j = rI w 49 j := fun j => by rw [w100f.1.rIe (by decide), w92f.1.rIe (by decide), w84f.1.rIe (by decide), w76f.1.rIe (by decide), w68f.2 j, w60f.1.rIe (by decide), w52f.1.rIe (by decide), w44f.1.rIe (by decide), w36f.1.rIe (by decide), w28f.1.rIe (by decide), w20f.1.rIe (by decide), w17f.1.rIe (by decide), w14f.1.rIe (by decide), w11f.1.rIe (by decide), w8f.1.rIe (by decide), w5f.1.rIe (by decide), w2f.1.rIe (by decide)]
  have r7 : ∀ j, rI w100 10 j = rI w 50 j := fun j => by rw [w100f.1.rIe (by decide), w92f.1.rIe (by decide), w84f.1.rIe (by decide), w76f.2 j, w68f.1.rIe (by decide), w60f.1.rIe (by decide), w52f.1.rIe (by decide), w44f.1.rIe (by decide), w36f.1.rIe (by decide), w28f.1.rIe (by decide), w20f.1.rIe (by decide), w17f.1.rIe (by decide), w14f.1.rIe (by decide), w11f.1.rIe (by decide), w8f.1.rIe (by decide), w5f.1.rIe (by decide), w2f.1.rIe (by decide)]
  have r8 : ∀ j, rI w100 11 j = rI w 51 j := fun j => by rw [w100f.1.rIe (by decide), w92f.1.rIe (by decide), w84f.2 j, w76f.1.rIe (by decide), w68f.1.rIe (by decide), w60f.1.rIe (by decide), w52f.1.rIe (by decide), w44f.1.rIe (by decide), w36f.1.rIe (by decide), w28f.1.rIe (by decide), w20f.1.rIe (by decide), w17f.1.rIe (by decide), w14f.1.rIe (by decide), w11f.1.rIe (by decide), w8f.1.rIe (by decide), w5f.1.rIe (by decide), w2f.1.rIe (by decide)]
  have r9 : ∀ j, rI w100 12 j = rI w 52 j := fun j => by rw [w100f.1.rIe (by decide), w92f.2 j, w84f.1.rIe (by decide), w76f.1.rIe (by decide), w68f.1.rIe (by decide), w60f.1.rIe (by decide), w52f.1.rIe (by decide), w44f.1.rIe (by decide), w36f.1.rIe (by decide), w28f.1.rIe (by decide), w20f.1.rIe (by decide), w17f.1.rIe (by decide), w14f.1.rIe (by decide), w11f.1.rIe (by decide), w8f.1.rIe (by decide), w5f.1.rIe (by decide), w2f.1.rIe (by decide)]
  have r10 : ∀ j, rI w100 13 j = rI w 53 j := fun j => by rw [w100f.2 j, w92f.1.rIe (by decide), w84f.1.rIe (by decide), w76f.1.rIe (by decide), w68f.1.rIe (by decide), w60f.1.rIe (by decide), w52f.1.rIe (by decide), w44f.1.rIe (by decide), w36f.1.rIe (by decide), w28f.1.rIe (by decide), w20f.1.rIe (by decide), w17f.1.rIe (by decide), w14f.1.rIe (by decide), w11f.1.rIe (by decide), w8f.1.rIe (by decide), w5f.1.rIe (by decide), w2f.1.rIe (by decide)]
  have O := (((((((((((((((((w2f.1.sub (qs := [3, 4, 5, 6, 7, 8, 9, 10, 11, 12, 13]) (by decide)).trans (w5f.1.sub (qs := [3, 4, 5, 6, 7, 8, 9, 10, 11, 12, 13]) (by decide))).trans (w8f.1.sub (qs := [3, 4, 5, 6, 7, 8, 9, 10, 11, 12, 13]) (by decide))).trans (w11f.1.sub (qs := [3, 4, 5, 6, 7, 8, 9, 10, 11, 12, 13]) (by decide))).trans (w14f.1.sub (qs := [3, 4, 5, 6, 7, 8, 9, 10, 11, 12, 13]) (by decide))).trans (w17f.1.sub (qs := [3, 4, 5, 6, 7, 8, 9, 10, 11, 12, 13]) (by decide))).trans (w20f.1.sub (qs := [3, 4, 5, 6, 7, 8, 9, 10, 11, 12, 13]) (by decide))).trans (w28f.1.sub (qs := [3, 4, 5, 6, 7, 8, 9, 10, 11, 12, 13]) (by decide))).trans (w36f.1.sub (qs := [3, 4, 5, 6, 7, 8, 9, 10, 11, 12, 13]) (by decide))).trans (w44f.1.sub (qs := [3, 4, 5, 6, 7, 8, 9, 10, 11, 12, 13]) (by decide))).trans (w52f.1.sub (qs := [3, 4, 5, 6, 7, 8, 9, 10, 11, 12, 13]) (by decide))).trans (w60f.1.sub (qs := [3, 4, 5, 6, 7, 8, 9, 10, 11, 12, 13]) (by decide))).trans (w68f.1.sub (qs := [3, 4, 5, 6, 7, 8, 9, 10, 11, 12, 13]) (by decide))).trans (w76f.1.sub (qs := [3, 4, 5, 6, 7, 8, 9, 10, 11, 12, 13]) (by decide))).trans (w84f.1.sub (qs := [3, 4, 5, 6, 7, 8, 9, 10, 11, 12, 13]) (by decide))).trans (w92f.1.sub (qs := [3, 4, 5, 6, 7, 8, 9, 10, 11, 12, 13]) (by decide))).trans (w100f.1.sub (qs := [3, 4, 5, 6, 7, 8, 9, 10, 11, 12, 13]) (by decide)))
  refine ⟨rfl, J101, fun x hx => O x (by simp only [List.mem_cons, List.mem_nil_iff, or_false]; omega), fun k hk => ?_, fun r h1 h2 => ?_⟩
  · rcases (show k = 0 ∨ k = 1 ∨ k = 2 ∨ k = 3 ∨ k = 4 ∨ k = 5 ∨ k = 6 by omega) with rfl | rfl | rfl | rfl | rfl | rfl | rfl
    · exact g0
    · exact g1
    · exact g2
    · exact g3
    · exact g4
    · exact g5
    · exact g6
  · rcases (show r = 1 ∨ r = 2 ∨ r = 3 ∨ r = 4 ∨ r = 5 ∨ r = 6 ∨ r = 7 ∨ r = 8 ∨ r = 9 ∨ r = 10 by omega) with rfl | rfl | rfl | rfl | rfl | rfl | rfl | rfl | rfl | rfl
    · exact r1
    · exact r2
    · exact r3
    · exact r4
    · exact r5
    · exact r6
    · exact r7
    · exact r8
    · exact r9
    · exact r10
theorem e_copy3_54 {d : Nat} {w : am_W} (I : ab_inv ab_TT ab_sets w) : aw none d 37 (fun r w1 => r = none ∧ ab_J ab_TT ab_sets ab_WR2 w w1 ∧ cpyP 3 54 w w1) (0, am_entry 37 [.ref 3, .ref 54], []) w := by
  have J : ab_J ab_TT ab_sets ab_WR2 w w := ⟨I, ab_fr.rf⟩
  show aw none d 37 _ (0, [some (.ref 3), some (.ref 54)], []) w
  refine aw_step (f1 := (1, [some (.ref 3), some (.ref 54)], [(.ref 3)])) (w1 := w) rfl rfl ?_
  refine aw_step (f1 := (2, [some (.ref 3), some (.ref 54)], [(.ref 54), (.ref 3)])) (w1 := w) rfl rfl ?_
  refine s_gi J 5 rfl rfl rfl rfl rfl rfl fun x1 x1a x1b x1f => ?_
  have x1v : x1.toInt = fI w 54 0 := by rw [← fI_of x1f]
  --
  refine s_pi J 8 rfl rfl rfl rfl rfl rfl rfl (by omega) (by omega) fun w2 J3 w2e => ?_
  have w2f := fv_st J.1 (p := 3) (kf := 0) rfl (by decide) w2e
  refine aw_step (f1 := (9, [some (.ref 3), some (.ref 54)], [(.ref 3)])) (w1 := w2) rfl rfl ?_
  refine aw_step (f1 := (10, [some (.ref 3), some (.ref 54)], [(.ref 54), (.ref 3)])) (w1 := w2) rfl rfl ?_
  refine s_gi J3 13 rfl rfl rfl rfl rfl rfl fun x4 x4a x4b x4f => ?_
  have x4v : x4.toInt = fI w 54 1 := by rw [← fI_of x4f, w2f.1.fIe (by decide)]
  --
  refine s_pi J3 16 rfl rfl rfl rfl rfl rfl rfl (by omega) (by omega) fun w5 J6 w5e => ?_
  have w5f := fv_st J3.1 (p := 3) (kf := 1) rfl (by decide) w5e
  refine aw_step (f1 := (17, [some (.ref 3), some (.ref 54)], [(.ref 3)])) (w1 := w5) rfl rfl ?_
  refine aw_step (f1 := (18, [some (.ref 3), some (.ref 54)], [(.ref 54), (.ref 3)])) (w1 := w5) rfl rfl ?_
  refine s_gi J6 21 rfl rfl rfl rfl rfl rfl fun x7 x7a x7b x7f => ?_
  have x7v : x7.toInt = fI w 54 2 := by rw [← fI_of x7f, w5f.1.fIe (by decide), w2f.1.fIe (by decide)]
  --
  refine s_pi J6 24 rfl rfl rfl rfl rfl rfl rfl (by omega) (by omega) fun w8 J9 w8e => ?_
  have w8f := fv_st J6.1 (p := 3) (kf := 2) rfl (by decide) w8e
  refine aw_step (f1 := (25, [some (.ref 3), some (.ref 54)], [(.ref 3)])) (w1 := w8) rfl rfl ?_
  refine aw_step (f1 := (26, [some (.ref 3), some (.ref 54)], [(.ref 54), (.ref 3)])) (w1 := w8) rfl rfl ?_
  refine s_gi J9 29 rfl rfl rfl rfl rfl rfl fun x10 x10a x10b x10f => ?_
  have x10v : x10.toInt = fI w 54 3 := by rw [← fI_of x10f, w8f.1.fIe (by decide), w5f.1.fIe (by decide), w2f.1.fIe (by decide)]
  --
  refine s_pi J9 32 rfl rfl rfl rfl rfl rfl rfl (by omega) (by omega) fun w11 J12 w11e => ?_
  have w11f := fv_st J9.1 (p := 3) (kf := 3) rfl (by decide) w11e
  refine aw_step (f1 := (33, [some (.ref 3), some (.ref 54)], [(.ref 3)])) (w1 := w11) rfl rfl ?_
  refine aw_step (f1 := (34, [some (.ref 3), some (.ref 54)], [(.ref 54), (.ref 3)])) (w1 := w11) rfl rfl ?_
  refine s_gi J12 37 rfl rfl rfl rfl rfl rfl fun x13 x13a x13b x13f => ?_
  have x13v : x13.toInt = fI w 54 4 := by rw [← fI_of x13f, w11f.1.fIe (by decide), w8f.1.fIe (by decide), w5f.1.fIe (by decide), w2f.1.fIe (by decide)]
  --
  refine s_pi J12 40 rfl rfl rfl rfl rfl rfl rfl (by omega) (by omega) fun w14 J15 w14e => ?_
  have w14f := fv_st J12.1 (p := 3) (kf := 4) rfl (by decide) w14e
  refine aw_step (f1 := (41, [some (.ref 3), some (.ref 54)], [(.ref 3)])) (w1 := w14) rfl rfl ?_
  refine aw_step (f1 := (42, [some (.ref 3), some (.ref 54)], [(.ref 54), (.ref 3)])) (w1 := w14) rfl rfl ?_
  refine s_gl J15 45 rfl rfl rfl rfl rfl rfl fun y16 y16a y16b y16f => ?_
  --
  refine s_p J15 48 rfl rfl rfl rfl rfl rfl rfl rfl (Or.inr (Or.inl ⟨rfl, y16, rfl, by show (-9223372036854775808 : Int) ≤ _; first | omega | exact (ab_any64 _).1, by show _ ≤ (9223372036854775807 : Int); first | omega | exact (ab_any64 _).2⟩)) fun w17 J18 w17e => ?_
  have w17f := fv_st J15.1 (p := 3) (kf := 5) rfl (by decide) w17e
  refine aw_step (f1 := (49, [some (.ref 3), some (.ref 54)], [(.ref 3)])) (w1 := w17) rfl rfl ?_
  refine aw_step (f1 := (50, [some (.ref 3), some (.ref 54)], [(.ref 54), (.ref 3)])) (w1 := w17) rfl rfl ?_
  refine s_gl J18 53 rfl rfl rfl rfl rfl rfl fun y19 y19a y19b y19f => ?_
  --
  refine s_p J18 56 rfl rfl rfl rfl rfl rfl rfl rfl (Or.inr (Or.inl ⟨rfl, y19, rfl, by show (-9223372036854775808 : Int) ≤ _; first | omega | exact (ab_any64 _).1, by show _ ≤ (9223372036854775807 : Int); first | omega | exact (ab_any64 _).2⟩)) fun w20 J21 w20e => ?_
  have w20f := fv_st J18.1 (p := 3) (kf := 6) rfl (by decide) w20e
  refine aw_step (f1 := (57, [some (.ref 3), some (.ref 54)], [(.ref 54)])) (w1 := w20) rfl rfl ?_
  refine s_gr 55 J21 60 rfl rfl rfl rfl rfl rfl ?_
  refine s_i (pc1 := 61) (ls1 := [some (.ref 3), some (.ref 54)]) (st1 := [(.ref 55)]) rfl rfl fun x22 e23 => ?_
  have e23t : x22.toInt = 0 := by rw [e23]; rfl
  refine aw_step (f1 := (62, [some (.ref 3), some (.ref 54)], [(.ref 3), (.int x22), (.ref 55)])) (w1 := w20) rfl rfl ?_
  refine s_gr 4 J21 65 rfl rfl rfl rfl rfl rfl ?_
  refine s_i (pc1 := 66) (ls1 := [some (.ref 3), some (.ref 54)]) (st1 := [(.ref 4), (.int x22), (.ref 55)]) rfl rfl fun x24 e25 => ?_
  have e25t : x24.toInt = 0 := by rw [e25]; rfl
  refine s_i (pc1 := 68) (ls1 := [some (.ref 3), some (.ref 54)]) (st1 := [(.int x24), (.ref 4), (.int x22), (.ref 55)]) rfl rfl fun x26 e27 => ?_
  have e27t : x26.toInt = 36 := by rw [e27]; rfl
  refine s_cp J21 71 rfl rfl rfl rfl rfl rfl (by omega) (by omega) (by omega) (Nat.le_of_ble_eq_true rfl) fun w28 J29 w28f => ?_
  refine aw_step (f1 := (72, [some (.ref 3), some (.ref 54)], [(.ref 54)])) (w1 := w28) rfl rfl ?_
  refine s_gr 56 J29 75 rfl rfl rfl rfl rfl rfl ?_
  refine s_i (pc1 := 76) (ls1 := [some (.ref 3), some (.ref 54)]) (st1 := [(.ref 56)]) rfl rfl fun x30 e31 => ?_
  have e31t : x30.toInt = 0 := by rw [e31]; rfl
  refine aw_step (f1 := (77, [some (.ref 3), some (.ref 54)], [(.ref 3), (.int x30), (.ref 56)])) (w1 := w28) rfl rfl ?_
  refine s_gr 5 J29 80 rfl rfl rfl rfl rfl rfl ?_
  refine s_i (pc1 := 81) (ls1 := [some (.ref 3), some (.ref 54)]) (st1 := [(.ref 5), (.int x30), (.ref 56)]) rfl rfl fun x32 e33 => ?_
  have e33t : x32.toInt = 0 := by rw [e33]; rfl
  refine s_i (pc1 := 83) (ls1 := [some (.ref 3), some (.ref 54)]) (st1 := [(.int x32), (.ref 5), (.int x30), (.ref 56)]) rfl rfl fun x34 e35 => ?_
  have e35t : x34.toInt = 36 := by rw [e35]; rfl
  refine s_cp J29 86 rfl rfl rfl rfl rfl rfl (by omega) (by omega) (by omega) (Nat.le_of_ble_eq_true rfl) fun w36 J37 w36f => ?_
  refine aw_step (f1 := (87, [some (.ref 3), some (.ref 54)], [(.ref 54)])) (w1 := w36) rfl rfl ?_
  refine s_gr 57 J37 90 rfl rfl rfl rfl rfl rfl ?_
  refine s_i (pc1 := 91) (ls1 := [some (.ref 3), some (.ref 54)]) (st1 := [(.ref 57)]) rfl rfl fun x38 e39 => ?_
  have e39t : x38.toInt = 0 := by rw [e39]; rfl
  refine aw_step (f1 := (92, [some (.ref 3), some (.ref 54)], [(.ref 3), (.int x38), (.ref 57)])) (w1 := w36) rfl rfl ?_
  refine s_gr 6 J37 95 rfl rfl rfl rfl rfl rfl ?_
  refine s_i (pc1 := 96) (ls1 := [some (.ref 3), some (.ref 54)]) (st1 := [(.ref 6), (.int x38), (.ref 57)]) rfl rfl fun x40 e41 => ?_
  have e41t : x40.toInt = 0 := by rw [e41]; rfl
  refine s_i (pc1 := 98) (ls1 := [some (.ref 3), some (.ref 54)]) (st1 := [(.int x40), (.ref 6), (.int x38), (.ref 57)]) rfl rfl fun x42 e43 => ?_
  have e43t : x42.toInt = 36 := by rw [e43]; rfl
  refine s_cp J37 101 rfl rfl rfl rfl rfl rfl (by omega) (by omega) (by omega) (Nat.le_of_ble_eq_true rfl) fun w44 J45 w44f => ?_
  refine aw_step (f1 := (102, [some (.ref 3), some (.ref 54)], [(.ref 54)])) (w1 := w44) rfl rfl ?_
  refine s_gr 58 J45 105 rfl rfl rfl rfl rfl rfl ?_
  refine s_i (pc1 := 106) (ls1 := [some (.ref 3), some (.ref 54)]) (st1 := [(.ref 58)]) rfl rfl fun x46 e47 => ?_
  have e47t : x46.toInt = 0 := by rw [e47]; rfl
  refine aw_step (f1 := (107, [some (.ref 3), some (.ref 54)], [(.ref 3), (.int x46), (.ref 58)])) (w1 := w44) rfl rfl ?_
  refine s_gr 7 J45 110 rfl rfl rfl rfl rfl rfl ?_
  refine s_i (pc1 := 111) (ls1 := [some (.ref 3), some (.ref 54)]) (st1 := [(.ref 7), (.int x46), (.ref 58)]) rfl rfl fun x48 e49 => ?_
  have e49t : x48.toInt = 0 := by rw [e49]; rfl
  refine s_i (pc1 := 112) (ls1 := [some (.ref 3), some (.ref 54)]) (st1 := [(.int x48), (.ref 7), (.int x46), (.ref 58)]) rfl rfl fun x50 e51 => ?_
  have e51t : x50.toInt = 4 := by rw [e51]; rfl
  refine s_cp J45 115 rfl rfl rfl rfl rfl rfl (by omega) (by omega) (by omega) (Nat.le_of_ble_eq_true rfl) fun w52 J53 w52f => ?_
  refine aw_step (f1 := (116, [some (.ref 3), some (.ref 54)], [(.ref 54)])) (w1 := w52) rfl rfl ?_
  refine s_gr 59 J53 119 rfl rfl rfl rfl rfl rfl ?_
  refine s_i (pc1 := 120) (ls1 := [some (.ref 3), some (.ref 54)]) (st1 := [(.ref 59)]) rfl rfl fun x54 e55 => ?_
  have e55t : x54.toInt = 0 := by rw [e55]; rfl
  refine aw_step (f1 := (121, [some (.ref 3), some (.ref 54)], [(.ref 3), (.int x54), (.ref 59)])) (w1 := w52) rfl rfl ?_
  refine s_gr 8 J53 124 rfl rfl rfl rfl rfl rfl ?_
  refine s_i (pc1 := 125) (ls1 := [some (.ref 3), some (.ref 54)]) (st1 := [(.ref 8), (.int x54), (.ref 59)]) rfl rfl fun x56 e57 => ?_
  have e57t : x56.toInt = 0 := by rw [e57]; rfl
  refine s_i (pc1 := 126) (ls1 := [some (.ref 3), some (.ref 54)]) (st1 := [(.int x56), (.ref 8), (.int x54), (.ref 59)]) rfl rfl fun x58 e59 => ?_
  have e59t : x58.toInt = 4 := by rw [e59]; rfl
  refine s_cp J53 129 rfl rfl rfl rfl rfl rfl (by omega) (by omega) (by omega) (Nat.le_of_ble_eq_true rfl) fun w60 J61 w60f => ?_
  refine aw_step (f1 := (130, [some (.ref 3), some (.ref 54)], [(.ref 54)])) (w1 := w60) rfl rfl ?_
  refine s_gr 60 J61 133 rfl rfl rfl rfl rfl rfl ?_
  refine s_i (pc1 := 134) (ls1 := [some (.ref 3), some (.ref 54)]) (st1 := [(.ref 60)]) rfl rfl fun x62 e63 => ?_
  have e63t : x62.toInt = 0 := by rw [e63]; rfl
  refine aw_step (f1 := (135, [some (.ref 3), some (.ref 54)], [(.ref 3), (.int x62), (.ref 60)])) (w1 := w60) rfl rfl ?_
  refine s_gr 9 J61 138 rfl rfl rfl rfl rfl rfl ?_
  refine s_i (pc1 := 139) (ls1 := [some (.ref 3), some (.ref 54)]) (st1 := [(.ref 9), (.int x62), (.ref 60)]) rfl rfl fun x64 e65 => ?_
  have e65t : x64.toInt = 0 := by rw [e65]; rfl
  refine s_i (pc1 := 140) (ls1 := [some (.ref 3), some (.ref 54)]) (st1 := [(.int x64), (.ref 9), (.int x62), (.ref 60)]) rfl rfl fun x66 e67 => ?_
  have e67t : x66.toInt = 2 := by rw [e67]; rfl
  refine s_cp J61 143 rfl rfl rfl rfl rfl rfl (by omega) (by omega) (by omega) (Nat.le_of_ble_eq_true rfl) fun w68 J69 w68f => ?_
  refine aw_step (f1 := (144, [some (.ref 3), some (.ref 54)], [(.ref 54)])) (w1 := w68) rfl rfl ?_
  refine s_gr 61 J69 147 rfl rfl rfl rfl rfl rfl ?_
  refine s_i (pc1 := 148) (ls1 := [some (.ref 3), some (.ref 54)]) (st1 := [(.ref 61)]) rfl rfl fun x70 e71 => ?_
  have e71t : x70.toInt = 0 := by rw [e71]; rfl
  refine aw_step (f1 := (149, [some (.ref 3), some (.ref 54)], [(.ref 3), (.int x70), (.ref 61)])) (w1 := w68) rfl rfl ?_
  refine s_gr 10 J69 152 rfl rfl rfl rfl rfl rfl ?_
  refine s_i (pc1 := 153) (ls1 := [some (.ref 3), some (.ref 54)]) (st1 := [(.ref 10), (.int x70), (.ref 61)]) rfl rfl fun x72 e73 => ?_
  have e73t : x72.toInt = 0 := by rw [e73]; rfl
  refine s_i (pc1 := 154) (ls1 := [some (.ref 3), some (.ref 54)]) (st1 := [(.int x72), (.ref 10), (.int x70), (.ref 61)]) rfl rfl fun x74 e75 => ?_
  have e75t : x74.toInt = 4 := by rw [e75]; rfl
  refine s_cp J69 157 rfl rfl rfl rfl rfl rfl (by omega) (by omega) (by omega) (Nat.le_of_ble_eq_true rfl) fun w76 J77 w76f => ?_
  refine aw_step (f1 := (158, [some (.ref 3), some (.ref 54)], [(.ref 54)])) (w1 := w76) rfl rfl ?_
  refine s_gr 62 J77 161 rfl rfl rfl rfl rfl rfl ?_
  refine s_i (pc1 := 162) (ls1 := [some (.ref 3), some (.ref 54)]) (st1 := [(.ref 62)]) rfl rfl fun x78 e79 => ?_
  have e79t : x78.toInt = 0 := by rw [e79]; rfl
  refine aw_step (f1 := (163, [some (.ref 3), some (.ref 54)], [(.ref 3), (.int x78), (.ref 62)])) (w1 := w76) rfl rfl ?_
  refine s_gr 11 J77 166 rfl rfl rfl rfl rfl rfl ?_
  refine s_i (pc1 := 167) (ls1 := [some (.ref 3), some (.ref 54)]) (st1 := [(.ref 11), (.int x78), (.ref 62)]) rfl rfl fun x80 e81 => ?_
  have e81t : x80.toInt = 0 := by rw [e81]; rfl
  refine s_i (pc1 := 168) (ls1 := [some (.ref 3), some (.ref 54)]) (st1 := [(.int x80), (.ref 11), (.int x78), (.ref 62)]) rfl rfl fun x82 e83 => ?_
  have e83t : x82.toInt = 4 := by rw [e83]; rfl
  refine s_cp J77 171 rfl rfl rfl rfl rfl rfl (by omega) (by omega) (by omega) (Nat.le_of_ble_eq_true rfl) fun w84 J85 w84f => ?_
  refine aw_step (f1 := (172, [some (.ref 3), some (.ref 54)], [(.ref 54)])) (w1 := w84) rfl rfl ?_
  refine s_gr 63 J85 175 rfl rfl rfl rfl rfl rfl ?_
  refine s_i (pc1 := 176) (ls1 := [some (.ref 3), some (.ref 54)]) (st1 := [(.ref 63)]) rfl rfl fun x86 e87 => ?_
  have e87t : x86.toInt = 0 := by rw [e87]; rfl
  refine aw_step (f1 := (177, [some (.ref 3), some (.ref 54)], [(.ref 3), (.int x86), (.ref 63)])) (w1 := w84) rfl rfl ?_
  refine s_gr 12 J85 180 rfl rfl rfl rfl rfl rfl ?_
  refine s_i (pc1 := 181) (ls1 := [some (.ref 3), some (.ref 54)]) (st1 := [(.ref 12), (.int x86), (.ref 63)]) rfl rfl fun x88 e89 => ?_
  have e89t : x88.toInt = 0 := by rw [e89]; rfl
  refine s_i (pc1 := 183) (ls1 := [some (.ref 3), some (.ref 54)]) (st1 := [(.int x88), (.ref 12), (.int x86), (.ref 63)]) rfl rfl fun x90 e91 => ?_
  have e91t : x90.toInt = 8 := by rw [e91]; rfl
  refine s_cp J85 186 rfl rfl rfl rfl rfl rfl (by omega) (by omega) (by omega) (Nat.le_of_ble_eq_true rfl) fun w92 J93 w92f => ?_
  refine aw_step (f1 := (187, [some (.ref 3), some (.ref 54)], [(.ref 54)])) (w1 := w92) rfl rfl ?_
  refine s_gr 64 J93 190 rfl rfl rfl rfl rfl rfl ?_
  refine s_i (pc1 := 191) (ls1 := [some (.ref 3), some (.ref 54)]) (st1 := [(.ref 64)]) rfl rfl fun x94 e95 => ?_
  have e95t : x94.toInt = 0 := by rw [e95]; rfl
  refine aw_step (f1 := (192, [some (.ref 3), some (.ref 54)], [(.ref 3), (.int x94), (.ref 64)])) (w1 := w92) rfl rfl ?_
  refine s_gr 13 J93 195 rfl rfl rfl rfl rfl rfl ?_
  refine s_i (pc1 := 196) (ls1 := [some (.ref 3), some (.ref 54)]) (st1 := [(.ref 13), (.int x94), (.ref 64)]) rfl rfl fun x96 e97 => ?_
  have e97t : x96.toInt = 0 := by rw [e97]; rfl
  refine s_i (pc1 := 198) (ls1 := [some (.ref 3), some (.ref 54)]) (st1 := [(.int x96), (.ref 13), (.int x94), (.ref 64)]) rfl rfl fun x98 e99 => ?_
  have e99t : x98.toInt = 8 := by rw [e99]; rfl
  refine s_cp J93 201 rfl rfl rfl rfl rfl rfl (by omega) (by omega) (by omega) (Nat.le_of_ble_eq_true rfl) fun w100 J101 w100f => ?_
  refine aw_ret (v := none) rfl rfl ?_
  have g0 : am_fv w100 3 0 = am_fv w 54 0 := by rw [w100f.1.fv (by decide), w92f.1.fv (by decide), w84f.1.fv (by decide), w76f.1.fv (by decide), w68f.1.fv (by decide), w60f.1.fv (by decide), w52f.1.fv (by decide), w44f.1.fv (by decide), w36f.1.fv (by decide), w28f.1.fv (by decide), w20f.2.2 0 (by decide), w17f.2.2 0 (by decide), w14f.2.2 0 (by decide), w11f.2.2 0 (by decide), w8f.2.2 0 (by decide), w5f.2.2 0 (by decide), w2f.2.1, ← x1f]
  have g1 : am_fv w100 3 1 = am_fv w 54 1 := by rw [w100f.1.fv (by decide), w92f.1.fv (by decide), w84f.1.fv (by decide), w76f.1.fv (by decide), w68f.1.fv (by decide), w60f.1.fv (by decide), w52f.1.fv (by decide), w44f.1.fv (by decide), w36f.1.fv (by decide), w28f.1.fv (by decide), w20f.2.2 1 (by decide), w17f.2.2 1 (by decide), w14f.2.2 1 (by decide), w11f.2.2 1 (by decide), w8f.2.2 1 (by decide), w5f.2.1, ← x4f, w2f.1.fv (by decide)]
  have g2 : am_fv w100 3 2 = am_fv w 54 2 := by rw [w100f.1.fv (by decide), w92f.1.fv (by decide), w84f.1.fv (by decide), w76f.1.fv (by decide), w68f.1.fv (by decide), w60f.1.fv (by decide), w52f.1.fv (by decide), w44f.1.fv (by decide), w36f.1.fv (by decide), w28f.1.fv (by decide), w20f.2.2 2 (by decide), w17f.2.2 2 (by decide), w14f.2.2 2 (by decide), w11f.2.2 2 (by decide), w8f.2.1, ← x7f, w5f.1.fv (by decide), w2f.1.fv (by decide)]
  have g3 : am_fv w100 3 3 = am_fv w 54 3 := by rw [w100f.1.fv (by decide), w92f.1.fv (by decide), w84f.1.fv (by decide), w76f.1.fv (by decide), w68f.1.fv (by decide), w60f.1.fv (by decide), w52f.1.fv (by decide), w44f.1.fv (by decide), w36f.1.fv (by decide), w28f.1.fv (by decide), w20f.2.2 3 (by decide), w17f.2.2 3 (by decide), w14f.2.2 3 (by decide), w11f.2.1, ← x10f, w8f.1.fv (by decide), w5f.1.fv (by decide), w2f.1.fv (by decide)]
  have g4 : am_fv w100 3 4 = am_fv w 54 4 := by rw [w100f.1.fv (by decide), w92f.1.fv (by decide), w84f.1.fv (by decide), w76f.1.fv (by decide), w68f.1.fv (by decide), w60f.1.fv (by decide), w52f.1.fv (by decide), w44f.1.fv (by decide), w36f.1.fv (by decide), w28f.1.fv (by decide), w20f.2.2 4 (by decide), w17f.2.2 4 (by decide), w14f.2.1, ← x13f, w11f.1.fv (by decide), w8f.1.fv (by decide), w5f.1.fv (by decide), w2f.1.fv (by decide)]
  have g5 : am_fv w100 3 5 = am_fv w 54 5 := by rw [w100f.1.fv (by decide), w92f.1.fv (by decide), w84f.1.fv (by decide), w76f.1.fv (by decide), w68f.1.fv (by decide), w60f.1.fv (by decide), w52f.1.fv (by decide), w44f.1.fv (by decide), w36f.1.fv (by decide), w28f.1.fv (by decide), w20f.2.2 5 (by decide), w17f.2.1, ← y16f, w14f.1.fv (by decide), w11f.1.fv (by decide), w8f.1.fv (by decide), w5f.1.fv (by decide), w2f.1.fv (by decide)]
  have g6 : am_fv w100 3 6 = am_fv w 54 6 := by rw [w100f.1.fv (by decide), w92f.1.fv (by decide), w84f.1.fv (by decide), w76f.1.fv (by decide), w68f.1.fv (by decide), w60f.1.fv (by decide), w52f.1.fv (by decide), w44f.1.fv (by decide), w36f.1.fv (by decide), w28f.1.fv (by decide), w20f.2.1, ← y19f, w17f.1.fv (by decide), w14f.1.fv (by decide), w11f.1.fv (by decide), w8f.1.fv (by decide), w5f.1.fv (by decide), w2f.1.fv (by decide)]
  have r1 : ∀ j, rI w100 4 j = rI w 55 j := fun j => by rw [w100f.1.rIe (by decide), w92f.1.rIe (by decide), w84f.1.rIe (by decide), w76f.1.rIe (by decide), w68f.1.rIe (by decide), w60f.1.rIe (by decide), w52f.1.rIe (by decide), w44f.1.rIe (by decide), w36f.1.rIe (by decide), w28f.2 j, w20f.1.rIe (by decide), w17f.1.rIe (by decide), w14f.1.rIe (by decide), w11f.1.rIe (by decide), w8f.1.rIe (by decide), w5f.1.rIe (by decide), w2f.1.rIe (by decide)]
  have r2 : ∀ j, rI w100 5 j = rI w 56 j := fun j => by rw [w100f.1.rIe (by decide), w92f.1.rIe (by decide), w84f.1.rIe (by decide), w76f.1.rIe (by decide), w68f.1.rIe (by decide), w60f.1.rIe (by decide), w52f.1.rIe (by decide), w44f.1.rIe (by decide), w36f.2 j, w28f.1.rIe (by decide), w20f.1.rIe (by decide), w17f.1.rIe (by decide), w14f.1.rIe (by decide), w11f.1.rIe (by decide), w8f.1.rIe (by decide), w5f.1.rIe (by decide), w2f.1.rIe (by decide)]
  have r3 : ∀ j, rI w100 6 j = rI w 57 j := fun j => by rw [w100f.1.rIe (by decide), w92f.1.rIe (by decide), w84f.1.rIe (by decide), w76f.1.rIe (by decide), w68f.1.rIe (by decide), w60f.1.rIe (by decide), w52f.1.rIe (by decide), w44f.2 j, w36f.1.rIe (by decide), w28f.1.rIe (by decide), w20f.1.rIe (by decide), w17f.1.rIe (by decide), w14f.1.rIe (by decide), w11f.1.rIe (by decide), w8f.1.rIe (by decide), w5f.1.rIe (by decide), w2f.1.rIe (by decide)]
  have r4 : ∀ j, rI w100 7 j = rI w 58 j := fun j => by rw [w100f.1.rIe (by decide), w92f.1.rIe (by decide), w84f.1.rIe (by decide), w76f.1.rIe (by decide), w68f.1.rIe (by decide), w60f.1.rIe (by decide), w52f.2 j, w44f.1.rIe (by decide), w36f.1.rIe (by decide), w28f.1.rIe (by decide), w20f.1.rIe (by decide), w17f.1.rIe (by decide), w14f.1.rIe (by decide), w11f.1.rIe (by decide), w8f.1.rIe (by decide), w5f.1.rIe (by decide), w2f.1.rIe (by decide)]
  have r5 : ∀ j, rI w100 8 j = rI w 59 j := fun j => by rw [w100f.1.rIe (by decide), w92f.1.rIe (by decide), w84f.1.rIe (by decide), w76f.1.rIe (by decide), w68f.1.rIe (by decide), w60f.2 j, w52f.1.rIe (by decide), w44f.1.rIe (by decide), w36f.1.rIe (by decide), w28f.1.rIe (by decide), w20f.1.rIe (by decide), w17f.1.rIe (by decide), w14f.1.rIe (by decide), w11f.1.rIe (by decide), w8f.1.rIe (by decide), w5f.1.rIe (by decide), w2f.1.rIe (by decide)]
  have r6 : ∀ j, rI w100 9 j = rI w 60 j := fun j => by rw [w100f.1.rIe (by decide), w92f.1.rIe (by decide), w84f.1.rIe (by decide), w76f.1.rIe (by decide), w68f.2 j, w60f.1.rIe (by decide), w52f.1.rIe (by decide), w44f.1.rIe (by decide), w36f.1.rIe (by decide), w28f.1.rIe (by decide), w20f.1.rIe (by decide), w17f.1.rIe (by decide), w14f.1.rIe (by decide), w11f.1.rIe (by decide), w8f.1.rIe (by decide), w5f.1.rIe (by decide), w2f.1.rIe (by decide)]
  have r7 : ∀ j, rI w100 10 j = rI w 61 j := fun j => by rw [w100f.1.rIe (by decide), w92f.1.rIe (by decide), w84f.1.rIe (by decide), w76f.2 j, w68f.1.rIe (by decide), w60f.1.rIe (by decide), w52f.1.rIe (by decide), w44f.1.rIe (by decide), w36f.1.rIe (by decide), w28f.1.rIe (by decide), w20f.1.rIe (by decide), w17f.1.rIe (by decide), w14f.1.rIe (by decide), w11f.1.rIe (by decide), w8f.1.rIe (by decide), w5f.1.rIe (by decide), w2f.1.rIe (by decide)]
  have r8 : ∀ j, rI w100 11 j = rI w 62 j := fun j => by rw [w100f.1.rIe (by decide), w92f.1.rIe (by decide), w84f.2 j, w76f.1.rIe (by decide), w68f.1.rIe (by decide), w60f.1.rIe (by decide), w52f.1.rIe (by decide), w44f.1.rIe (by decide), w36f.1.rIe (by decide), w28f.1.rIe (by decide), w20f.1.rIe (by decide), w17f.1.rIe (by decide), w14f.1.rIe (by decide), w11f.1.rIe (by decide), w8f.1.rIe (by decide), w5f.1.rIe (by decide), w2f.1.rIe (by decide)]
  have r9 : ∀ j, rI w100 12 j = rI w 63 j := fun j => by rw [w100f.1.rIe (by decide), w92f.2 j, w84f.1.rIe (by decide), w76f.1.rIe (by decide), w68f.1.rIe (by decide), w60f.1.rIe (by decide), w52f.1.rIe (by decide), w44f.1.rIe (by decide), w36f.1.rIe (by decide), w28f.1.rIe (by decide), w20f.1.rIe (by decide), w17f.1.rIe (by decide), w14f.1.rIe (by decide), w11f.1.rIe (by decide), w8f.1.rIe (by decide), w5f.1.rIe (by decide), w2f.1.rIe (by decide)]
  have r10 : ∀ j, rI w100 13 j = rI w 64 j := fun j => by rw [w100f.2 j, w92f.1.rIe (by decide), w84f.1.rIe (by decide), w76f.1.rIe (by decide), w68f.1.rIe (by decide), w60f.1.rIe (by decide), w52f.1.rIe (by decide), w44f.1.rIe (by decide), w36f.1.rIe (by decide), w28f.1.rIe (by decide), w20f.1.rIe (by decide), w17f.1.rIe (by decide), w14f.1.rIe (by decide), w11f.1.rIe (by decide), w8f.1.rIe (by decide), w5f.1.rIe (by decide), w2f.1.rIe (by decide)]
  have O := (((((((((((((((((w2f.1.sub (qs := [3, 4, 5, 6, 7, 8, 9, 10, 11, 12, 13]) (by decide)).trans (w5f.1.sub (qs := [3, 4, 5, 6, 7, 8, 9, 10, 11, 12, 13]) (by decide))).trans (w8f.1.sub (qs := [3, 4, 5, 6, 7, 8, 9, 10, 11, 12, 13]) (by decide))).trans (w11f.1.sub (qs := [3, 4, 5, 6, 7, 8, 9, 10, 11, 12, 13]) (by decide))).trans (w14f.1.sub (qs := [3, 4, 5, 6, 7, 8, 9, 10, 11, 12, 13]) (by decide))).trans (w17f.1.sub (qs := [3, 4, 5, 6, 7, 8, 9, 10, 11, 12, 13]) (by decide))).trans (w20f.1.sub (qs := [3, 4, 5, 6, 7, 8, 9, 10, 11, 12, 13]) (by decide))).trans (w28f.1.sub (qs := [3, 4, 5, 6, 7, 8, 9, 10, 11, 12, 13]) (by decide))).trans (w36f.1.sub (qs := [3, 4, 5, 6, 7, 8, 9, 10, 11, 12, 13]) (by decide))).trans (w44f.1.sub (qs := [3, 4, 5, 6, 7, 8, 9, 10, 11, 12, 13]) (by decide))).trans (w52f.1.sub (qs := [3, 4, 5, 6, 7, 8, 9, 10, 11, 12, 13]) (by decide))).trans (w60f.1.sub (qs := [3, 4, 5, 6, 7, 8, 9, 10, 11, 12, 13]) (by decide))).trans (w68f.1.sub (qs := [3, 4, 5, 6, 7, 8, 9, 10, 11, 12, 13]) (by decide))).trans (w76f.1.sub (qs := [3, 4, 5, 6, 7, 8, 9, 10, 11, 12, 13]) (by decide))).trans (w84f.1.sub (qs := [3, 4, 5, 6, 7, 8, 9, 10, 11, 12, 13]) (by decide))).trans (w92f.1.sub (qs := [3, 4, 5, 6, 7, 8, 9, 10, 11, 12, 13]) (by decide))).trans (w100f.1.sub (qs := [3, 4, 5, 6, 7, 8, 9, 10, 11, 12, 13]) (by decide)))
  refine ⟨rfl, J101, fun x hx => O x (by simp only [List.mem_cons, List.mem_nil_iff, or_false]; omega), fun k hk => ?_, fun r h1 h2 => ?_⟩
  · rcases (show k = 0 ∨ k = 1 ∨ k = 2 ∨ k = 3 ∨ k = 4 ∨ k = 5 ∨ k = 6 by omega) with rfl | rfl | rfl | rfl | rfl | rfl | rfl
    · exact g0
    · exact g1
    · exact g2
    · exact g3
    · exact g4
    · exact g5
    · exact g6
  · rcases (show r = 1 ∨ r = 2 ∨ r = 3 ∨ r = 4 ∨ r = 5 ∨ r = 6 ∨ r = 7 ∨ r = 8 ∨ r = 9 ∨ r = 10 by omega) with rfl | rfl | rfl | rfl | rfl | rfl | rfl | rfl | rfl | rfl
    · exact r1
    · exact r2
    · exact r3
    · exact r4
    · exact r5
    · exact r6
    · exact r7
    · exact r8
    · exact r9
    · exact r10
theorem cp7 {d z p q : Nat} {w : am_W} {f : am_F} (h : aw none d z (fun r w1 => r = none ∧ ab_J ab_TT ab_sets ab_WR2 w w1 ∧ cpyP p q w w1) f w) : aw none d z (fun r w1 => r = none ∧ ab_J ab_TT ab_sets ab_WR6 w w1 ∧ cpyP p q w w1) f w := h.mono fun r w1 q => ⟨q.1, J26_of q.2.1, q.2.2⟩
/-- image n: the scene goes to place p -/
noncomputable def iyP (n : Nat) (w w1 : am_W) : Prop := ∃ w2, cpyP (43 + 11 * n) 3 w w2 ∧ only [15] w2 w1 ∧ rI w1 15 n = 1 ∧ ∀ j, j ≠ n → rI w1 15 j = rI w 15 j
noncomputable def ryP (n : Nat) (w w1 : am_W) : Prop := cpyP 3 (43 + 11 * n) w w1
theorem y_image {d : Nat} {w : am_W} (n : Int32) (I : ab_inv ab_TT ab_sets w) (k14 : K14 w) : aw none (d + 2) 93 (fun r w1 => ab_inv ab_TT ab_sets w1 ∧ ∃ b : Int32, r = some (.int b) ∧ ((b.toInt = -2 ∧ (n.toInt < 0 ∨ 1 < n.toInt) ∧ w1 = w) ∨ (b.toInt = 1 ∧ (0 ≤ n.toInt ∧ n.toInt ≤ 1) ∧ iyP n.toInt.toNat w w1))) (0, am_entry 93 [.ref 0, .int n], []) w := by
  have J : ab_J ab_TT ab_sets ab_WR6 w w := ⟨I, ab_fr.rf⟩
  show aw none (d + 2) 93 _ (0, [some (.ref 0), some (.int n)], []) w
  refine aw_step (f1 := (1, [some (.ref 0), some (.int n)], [(.int n)])) (w1 := w) rfl rfl ?_
  refine s_i (pc1 := 2) (ls1 := [some (.ref 0), some (.int n)]) (st1 := [(.int n)]) rfl rfl fun x1 e2 => ?_
  have e2t : x1.toInt = 0 := by rw [e2]; rfl
  refine s_i (pc1 := 3) (ls1 := [some (.ref 0), some (.int n)]) (st1 := [(.int x1), (.int n)]) rfl rfl fun x3 e4 => ?_
  have e4t : x3.toInt = 1 := by rw [e4]; rfl
  refine s_cs (z := 102) (as := [(.int n), (.int x1), (.int x3)]) (st1 := []) 6 rfl rfl rfl rfl rfl rfl (Nat.le_of_ble_eq_true rfl) (Nat.le_of_ble_eq_true rfl) (Nat.le_of_ble_eq_true rfl) (q_within n x1 x3) ?_
  rintro _ _ ⟨rfl, x5, rfl, x5t⟩
  refine ⟨rfl, ?_⟩
  show aw none _ 93 _ (6, [some (.ref 0), some (.int n)], [(.int x5)]) w
  refine s_if 12 9 rfl rfl rfl (fun (h6 : ¬ x5.toInt = 0) => ?_) (fun (h6 : ¬ (¬ x5.toInt = 0)) => ?_)
  · --
    refine aw_step (f1 := (13, [some (.ref 0), some (.int n)], [(.ref 0)])) (w1 := w) rfl rfl ?_
    refine s_gr 14 J 16 rfl rfl rfl rfl rfl rfl ?_
    refine aw_step (f1 := (17, [some (.ref 0), some (.int n)], [(.int n), (.ref 14)])) (w1 := w) rfl rfl ?_
    rcases (show n.toInt = 0 ∨ n.toInt = 1 by omega) with hq | hq
    · refine s_aa (q := 43) 18 rfl rfl k14 (by omega) (by rw [hq]; rfl) ?_
      refine aw_step (f1 := (19, [some (.ref 0), some (.int n)], [(.ref 0), (.ref 43)])) (w1 := w) rfl rfl ?_
      refine s_gr 3 J 22 rfl rfl rfl rfl rfl rfl ?_
      refine s_cv (z := 37) (p := 43) (as := [(.ref 3)]) (st1 := []) J 25 rfl rfl rfl rfl rfl rfl rfl rfl (Nat.le_of_ble_eq_true rfl) (Nat.le_of_ble_eq_true rfl) (cp7 (e_copy43_3 J.1)) ?_
      rintro _ w7 ⟨rfl, J8c, w7c⟩
      have J8 := J.trans J8c
      refine ⟨am_len2 J J8c, ?_⟩
      show aw none _ 93 _ (25, [some (.ref 0), some (.int n)], []) w7
      refine aw_step (f1 := (26, [some (.ref 0), some (.int n)], [(.ref 0)])) (w1 := w7) rfl rfl ?_
      refine s_gr 15 J8 29 rfl rfl rfl rfl rfl rfl ?_
      refine aw_step (f1 := (30, [some (.ref 0), some (.int n)], [(.int n), (.ref 15)])) (w1 := w7) rfl rfl ?_
      refine s_i (pc1 := 31) (ls1 := [some (.ref 0), some (.int n)]) (st1 := [(.int n), (.ref 15)]) rfl rfl fun x9 e10 => ?_
      have e10t : x9.toInt = 1 := by rw [e10]; rfl
      refine s_bs J8 32 rfl rfl rfl rfl (by omega) (by omega) (by omega) fun w11 J12 w11e => ?_
      refine s_i (pc1 := 33) (ls1 := [some (.ref 0), some (.int n)]) (st1 := []) rfl rfl fun x13 e14 => ?_
      have e14t : x13.toInt = 1 := by rw [e14]; rfl
      refine aw_ret (v := some (.int x13)) rfl rfl ?_
      have so := rZ_st J8.1 (p := 15) (j := n.toInt.toNat) rfl (by omega) w11e
      have c0 : ∀ j, rI w7 15 j = rI w 15 j := fun j => by unfold rI am_row; rw [w7c.1 15 (by omega)]
      exact ⟨J12.1, x13, rfl, Or.inr ⟨by omega, ⟨by omega, by omega⟩, w7, by rw [show n.toInt.toNat = 0 by omega]; exact w7c, so.1, by rw [so.2.1]; omega, fun j hj => by rw [so.2.2 j hj, c0]⟩⟩
    · refine s_aa (q := 54) 18 rfl rfl k14 (by omega) (by rw [hq]; rfl) ?_
      refine aw_step (f1 := (19, [some (.ref 0), some (.int n)], [(.ref 0), (.ref 54)])) (w1 := w) rfl rfl ?_
      refine s_gr 3 J 22 rfl rfl rfl rfl rfl rfl ?_
      refine s_cv (z := 37) (p := 54) (as := [(.ref 3)]) (st1 := []) J 25 rfl rfl rfl rfl rfl rfl rfl rfl (Nat.le_of_ble_eq_true rfl) (Nat.le_of_ble_eq_true rfl) (cp7 (e_copy54_3 J.1)) ?_
      rintro _ w15 ⟨rfl, J16c, w15c⟩
      have J16 := J.trans J16c
      refine ⟨am_len2 J J16c, ?_⟩
      show aw none _ 93 _ (25, [some (.ref 0), some (.int n)], []) w15
      refine aw_step (f1 := (26, [some (.ref 0), some (.int n)], [(.ref 0)])) (w1 := w15) rfl rfl ?_
      refine s_gr 15 J16 29 rfl rfl rfl rfl rfl rfl ?_
      refine aw_step (f1 := (30, [some (.ref 0), some (.int n)], [(.int n), (.ref 15)])) (w1 := w15) rfl rfl ?_
      refine s_i (pc1 := 31) (ls1 := [some (.ref 0), some (.int n)]) (st1 := [(.int n), (.ref 15)]) rfl rfl fun x17 e18 => ?_
      have e18t : x17.toInt = 1 := by rw [e18]; rfl
      refine s_bs J16 32 rfl rfl rfl rfl (by omega) (by omega) (by omega) fun w19 J20 w19e => ?_
      refine s_i (pc1 := 33) (ls1 := [some (.ref 0), some (.int n)]) (st1 := []) rfl rfl fun x21 e22 => ?_
      have e22t : x21.toInt = 1 := by rw [e22]; rfl
      refine aw_ret (v := some (.int x21)) rfl rfl ?_
      have so := rZ_st J16.1 (p := 15) (j := n.toInt.toNat) rfl (by omega) w19e
      have c0 : ∀ j, rI w15 15 j = rI w 15 j := fun j => by unfold rI am_row; rw [w15c.1 15 (by omega)]
      exact ⟨J20.1, x21, rfl, Or.inr ⟨by omega, ⟨by omega, by omega⟩, w15, by rw [show n.toInt.toNat = 1 by omega]; exact w15c, so.1, by rw [so.2.1]; omega, fun j hj => by rw [so.2.2 j hj, c0]⟩⟩
  · --
    refine s_i (pc1 := 11) (ls1 := [some (.ref 0), some (.int n)]) (st1 := []) rfl rfl fun x23 e24 => ?_
    have e24t : x23.toInt = -2 := by rw [e24]; rfl
    refine aw_ret (v := some (.int x23)) rfl rfl ?_
    exact ⟨J.1, x23, rfl, Or.inl ⟨by omega, by omega, rfl⟩⟩
theorem y_restore {d : Nat} {w : am_W} (n : Int32) (I : ab_inv ab_TT ab_sets w) (k14 : K14 w) : aw none (d + 2) 94 (fun r w1 => ab_inv ab_TT ab_sets w1 ∧ ∃ b : Int32, r = some (.int b) ∧ ((b.toInt = -2 ∧ (n.toInt < 0 ∨ 1 < n.toInt) ∧ w1 = w) ∨ (b.toInt = -3 ∧ (0 ≤ n.toInt ∧ n.toInt ≤ 1) ∧ rI w 15 n.toInt.toNat = 0 ∧ w1 = w) ∨ (b.toInt = 1 ∧ (0 ≤ n.toInt ∧ n.toInt ≤ 1) ∧ rI w 15 n.toInt.toNat ≠ 0 ∧ ryP n.toInt.toNat w w1))) (0, am_entry 94 [.ref 0, .int n], []) w := by
  have J : ab_J ab_TT ab_sets ab_WR2 w w := ⟨I, ab_fr.rf⟩
  show aw none (d + 2) 94 _ (0, [some (.ref 0), some (.int n)], []) w
  refine aw_step (f1 := (1, [some (.ref 0), some (.int n)], [(.int n)])) (w1 := w) rfl rfl ?_
  refine s_i (pc1 := 2) (ls1 := [some (.ref 0), some (.int n)]) (st1 := [(.int n)]) rfl rfl fun x1 e2 => ?_
  have e2t : x1.toInt = 0 := by rw [e2]; rfl
  refine s_i (pc1 := 3) (ls1 := [some (.ref 0), some (.int n)]) (st1 := [(.int x1), (.int n)]) rfl rfl fun x3 e4 => ?_
  have e4t : x3.toInt = 1 := by rw [e4]; rfl
  refine s_cs (z := 102) (as := [(.int n), (.int x1), (.int x3)]) (st1 := []) 6 rfl rfl rfl rfl rfl rfl (Nat.le_of_ble_eq_true rfl) (Nat.le_of_ble_eq_true rfl) (Nat.le_of_ble_eq_true rfl) (q_within n x1 x3) ?_
  rintro _ _ ⟨rfl, x5, rfl, x5t⟩
  refine ⟨rfl, ?_⟩
  show aw none _ 94 _ (6, [some (.ref 0), some (.int n)], [(.int x5)]) w
  refine s_if 12 9 rfl rfl rfl (fun (h6 : ¬ x5.toInt = 0) => ?_) (fun (h6 : ¬ (¬ x5.toInt = 0)) => ?_)
  · --
    refine aw_step (f1 := (13, [some (.ref 0), some (.int n)], [(.ref 0)])) (w1 := w) rfl rfl ?_
    refine s_gr 15 J 16 rfl rfl rfl rfl rfl rfl ?_
    refine aw_step (f1 := (17, [some (.ref 0), some (.int n)], [(.int n), (.ref 15)])) (w1 := w) rfl rfl ?_
    refine s_ba J 18 rfl rfl rfl (by omega) (by omega) fun x7 x7a x7b x7f => ?_
    have hk := rI_of x7f
    refine s_if 24 21 rfl rfl rfl (fun (h8 : ¬ x7.toInt = 0) => ?_) (fun (h8 : ¬ (¬ x7.toInt = 0)) => ?_)
    · --
      refine aw_step (f1 := (25, [some (.ref 0), some (.int n)], [(.ref 0)])) (w1 := w) rfl rfl ?_
      refine s_gr 3 J 28 rfl rfl rfl rfl rfl rfl ?_
      refine aw_step (f1 := (29, [some (.ref 0), some (.int n)], [(.ref 0), (.ref 3)])) (w1 := w) rfl rfl ?_
      refine s_gr 14 J 32 rfl rfl rfl rfl rfl rfl ?_
      refine aw_step (f1 := (33, [some (.ref 0), some (.int n)], [(.int n), (.ref 14), (.ref 3)])) (w1 := w) rfl rfl ?_
      rcases (show n.toInt = 0 ∨ n.toInt = 1 by omega) with hq | hq
      · refine s_aa (q := 43) 34 rfl rfl k14 (by omega) (by rw [hq]; rfl) ?_
        refine s_cv (z := 37) (p := 3) (as := [(.ref 43)]) (st1 := []) J 37 rfl rfl rfl rfl rfl rfl rfl rfl (Nat.le_of_ble_eq_true rfl) (Nat.le_of_ble_eq_true rfl) (e_copy3_43 J.1) ?_
        rintro _ w9 ⟨rfl, J10c, w9c⟩
        have J10 := J.trans J10c
        refine ⟨am_len2 J J10c, ?_⟩
        show aw none _ 94 _ (37, [some (.ref 0), some (.int n)], []) w9
        refine s_i (pc1 := 38) (ls1 := [some (.ref 0), some (.int n)]) (st1 := []) rfl rfl fun x11 e12 => ?_
        have e12t : x11.toInt = 1 := by rw [e12]; rfl
        refine aw_ret (v := some (.int x11)) rfl rfl ?_
        exact ⟨J10.1, x11, rfl, Or.inr (Or.inr ⟨by omega, ⟨by omega, by omega⟩, by omega, by unfold ryP; rw [show n.toInt.toNat = 0 by omega]; exact w9c⟩)⟩
      · refine s_aa (q := 54) 34 rfl rfl k14 (by omega) (by rw [hq]; rfl) ?_
        refine s_cv (z := 37) (p := 3) (as := [(.ref 54)]) (st1 := []) J 37 rfl rfl rfl rfl rfl rfl rfl rfl (Nat.le_of_ble_eq_true rfl) (Nat.le_of_ble_eq_true rfl) (e_copy3_54 J.1) ?_
        rintro _ w13 ⟨rfl, J14c, w13c⟩
        have J14 := J.trans J14c
        refine ⟨am_len2 J J14c, ?_⟩
        show aw none _ 94 _ (37, [some (.ref 0), some (.int n)], []) w13
        refine s_i (pc1 := 38) (ls1 := [some (.ref 0), some (.int n)]) (st1 := []) rfl rfl fun x15 e16 => ?_
        have e16t : x15.toInt = 1 := by rw [e16]; rfl
        refine aw_ret (v := some (.int x15)) rfl rfl ?_
        exact ⟨J14.1, x15, rfl, Or.inr (Or.inr ⟨by omega, ⟨by omega, by omega⟩, by omega, by unfold ryP; rw [show n.toInt.toNat = 1 by omega]; exact w13c⟩)⟩
    · --
      refine s_i (pc1 := 23) (ls1 := [some (.ref 0), some (.int n)]) (st1 := []) rfl rfl fun x17 e18 => ?_
      have e18t : x17.toInt = -3 := by rw [e18]; rfl
      refine aw_ret (v := some (.int x17)) rfl rfl ?_
      first
        | exact ⟨J.1, x17, rfl, Or.inl ⟨by omega, by omega, rfl⟩⟩
        | exact ⟨J.1, x17, rfl, Or.inr (Or.inl ⟨by omega, ⟨by omega, by omega⟩, by omega, rfl⟩)⟩
  · --
    refine s_i (pc1 := 11) (ls1 := [some (.ref 0), some (.int n)]) (st1 := []) rfl rfl fun x19 e20 => ?_
    have e20t : x19.toInt = -2 := by rw [e20]; rfl
    refine aw_ret (v := some (.int x19)) rfl rfl ?_
    first
      | exact ⟨J.1, x19, rfl, Or.inl ⟨by omega, by omega, rfl⟩⟩
      | exact ⟨J.1, x19, rfl, Or.inr (Or.inl ⟨by omega, ⟨by omega, by omega⟩, by omega, rfl⟩)⟩
