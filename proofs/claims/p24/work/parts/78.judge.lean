/-! ===== judge of the model ===== -/
theorem RMp.wr {w w1 : am_W} {n : Int} {P : Nat → Int} (R : RMp w n P) (I : ab_inv ab_TT ab_sets w) (J : ab_J ab_TT ab_sets ab_WR w w1) : RMp w1 n P := ⟨by rw [fI_eq (fr_fv J I (p := 65) rfl (by decide) (by decide))]; exact R.1, fun j => by
  rw [← R.2 j]
  unfold rI
  rw [fr_row J.2 (by decide) (fun k z => by
    have h : ∀ x ∈ ab_WR.2, x.1 = 65 := by decide
    exact absurd (show 73 = 65 from h _ z) (by decide))]⟩
theorem f_whyC {d : Nat} {w : am_W} {V st : Nat → Int} {k : Int} (R : RMs w V) (C : JM w st) (B : jB V st k) (b : Int32) (hb : 0 ≤ b.toInt ∧ b.toInt ≤ 3) (I : ab_inv ab_TT ab_sets w) : aw none (d + 1) 137 (fun r w1 => ab_J ab_TT ab_sets ab_WR w w1 ∧ (fI w1 65 20 = fI w 65 20 ∧ fI w1 65 21 = fI w 65 21) ∧ ∃ z : Int32, r = some (.int z) ∧ ∃ st1, JM w1 st1 ∧ jS V st 35 b.toInt z.toInt st1) (0, am_entry 137 [.ref 65, .int b], []) w := by
  have J : ab_J ab_TT ab_sets ab_WR w w := ⟨I, ab_fr.rf⟩
  obtain ⟨c0, c1, c2, c3⟩ := C
  obtain ⟨q0, q1, q2, q3⟩ := B
  have szm := szM_in I
  have hsz := R.sz
  show aw none (d + 1) 137 _ (0, [some (.ref 65), some (.int b)], []) w
  refine aw_step (f1 := (1, [some (.ref 65), some (.int b)], [(.ref 65)])) (w1 := w) rfl rfl ?_
  refine s_gl J 4 rfl rfl rfl rfl rfl rfl fun y1 y1a y1b y1f => ?_
  refine aw_step (f1 := (5, [some (.ref 65), some (.int b)], [(.ref 65), (.long y1)])) (w1 := w) rfl rfl ?_
  refine s_gi J 8 rfl rfl rfl rfl rfl rfl fun x2 x2a x2b x2f => ?_
  have x2v : x2.toInt = fI w 65 22 := by rw [← fI_of x2f]
  --
  refine s_cs (z := 110) (as := [(.long y1), (.int x2)]) (st1 := []) 11 rfl rfl rfl rfl rfl rfl (Nat.le_of_ble_eq_true rfl) (Nat.le_of_ble_eq_true rfl) (Nat.le_of_ble_eq_true rfl) (q_has y1 x2 (by omega) (by omega)) ?_
  rintro _ _ ⟨rfl, x3, rfl, x3t⟩
  refine ⟨rfl, ?_⟩
  show aw none _ 137 _ (11, [some (.ref 65), some (.int b)], [(.int x3)]) w
  have x3l := bt_le (n64 y1) x2.toInt.toNat
  have hcb : chB V (st 0) = bt (n64 y1) x2.toInt.toNat := by unfold chB; rw [show Int64.ofInt (V 3) = y1 from by rw [← R.f3, fLi_of y1f]; exact Int64.ofInt_toInt _, show (st 0).toNat = x2.toInt.toNat by omega]
  refine s_if 22 14 rfl rfl rfl (fun (h4 : x3.toInt = 0) => ?_) (fun (h4 : ¬ (x3.toInt = 0)) => ?_)
  · --
    refine s_i (pc1 := 23) (ls1 := [some (.ref 65), some (.int b)]) (st1 := []) rfl rfl fun x5 e6 => ?_
    have e6t : x5.toInt = 5 := by rw [e6]; rfl
    refine aw_ret (v := some (.int x5)) rfl rfl ?_
    exact ⟨J, ⟨rfl, rfl⟩, x5, rfl, st, ⟨c0, c1, c2, c3⟩, Or.inl ⟨rfl, by omega, by first | exact Or.inr (by omega) | exact Or.inl (by rw [hcb]; omega), rfl⟩⟩
  · --
    refine aw_step (f1 := (15, [some (.ref 65), some (.int b)], [(.int b)])) (w1 := w) rfl rfl ?_
    refine aw_step (f1 := (16, [some (.ref 65), some (.int b)], [(.ref 65), (.int b)])) (w1 := w) rfl rfl ?_
    refine s_gi J 19 rfl rfl rfl rfl rfl rfl fun x7 x7a x7b x7f => ?_
    have x7v : x7.toInt = fI w 65 23 := by rw [← fI_of x7f]
    refine s_ic 24 22 rfl rfl rfl (fun (h8 : ¬ b.toInt = x7.toInt) => ?_) (fun (h8 : ¬ (¬ b.toInt = x7.toInt)) => ?_)
    · --
      refine aw_step (f1 := (25, [some (.ref 65), some (.int b)], [(.ref 65)])) (w1 := w) rfl rfl ?_
      refine aw_step (f1 := (26, [some (.ref 65), some (.int b)], [(.int b), (.ref 65)])) (w1 := w) rfl rfl ?_
      refine s_pi J 29 rfl rfl rfl rfl rfl rfl rfl (by omega) (by omega) fun w9 J10 w9e => ?_
      have w9f := fv_st J.1 (p := 65) (kf := 23) rfl (by decide) w9e
      refine s_i (pc1 := 30) (ls1 := [some (.ref 65), some (.int b)]) (st1 := []) rfl rfl fun x11 e12 => ?_
      have e12t : x11.toInt = 0 := by rw [e12]; rfl
      refine aw_ret (v := some (.int x11)) rfl rfl ?_
      exact ⟨J10, ⟨by rw [fI_eq (w9f.2.2 20 (by decide))], by rw [fI_eq (w9f.2.2 21 (by decide))]⟩, x11, rfl, _, ⟨by rw [fI_eq (w9f.2.2 22 (by decide)), upv_n (by decide)]; exact c0, by rw [fI_of w9f.2.1, upv_s], by rw [fI_eq (w9f.2.2 24 (by decide)), upv_n (by decide)]; exact c2, fun k hk => by rw [w9f.1.rIe (by decide), upv_n (by omega)]; exact c3 k hk⟩, Or.inr (Or.inl ⟨rfl, by omega, by rw [hcb]; omega, by omega, rfl⟩)⟩
    · --
      refine s_i (pc1 := 23) (ls1 := [some (.ref 65), some (.int b)]) (st1 := []) rfl rfl fun x13 e14 => ?_
      have e14t : x13.toInt = 5 := by rw [e14]; rfl
      refine aw_ret (v := some (.int x13)) rfl rfl ?_
      exact ⟨J, ⟨rfl, rfl⟩, x13, rfl, st, ⟨c0, c1, c2, c3⟩, Or.inl ⟨rfl, by omega, by first | exact Or.inr (by omega) | exact Or.inl (by rw [hcb]; omega), rfl⟩⟩
theorem f_wearOf {d : Nat} {w : am_W} (x : Int32) : aw none d 135 (fun r w1 => w = w1 ∧ ∃ z : Int32, r = some (.int z) ∧ ((x.toInt = 94 ∧ z.toInt = 2) ∨ (x.toInt ≠ 94 ∧ z.toInt = 1))) (0, am_entry 135 [.int x], []) w := by
  show aw none d 135 _ (0, [some (.int x)], []) w
  refine aw_step (f1 := (1, [some (.int x)], [(.int x)])) (w1 := w) rfl rfl ?_
  refine s_i (pc1 := 3) (ls1 := [some (.int x)]) (st1 := [(.int x)]) rfl rfl fun x1 e2 => ?_
  have e2t : x1.toInt = 94 := by rw [e2]; rfl
  refine s_ic 10 6 rfl rfl rfl (fun (h3 : ¬ x.toInt = x1.toInt) => ?_) (fun (h3 : ¬ (¬ x.toInt = x1.toInt)) => ?_)
  · --
    refine s_i (pc1 := 11) (ls1 := [some (.int x)]) (st1 := []) rfl rfl fun x4 e5 => ?_
    have e5t : x4.toInt = 1 := by rw [e5]; rfl
    refine aw_ret (v := some (.int x4)) rfl rfl ?_
    exact ⟨rfl, x4, rfl, by omega⟩
  · --
    refine s_i (pc1 := 7) (ls1 := [some (.int x)]) (st1 := []) rfl rfl fun x6 e7 => ?_
    have e7t : x6.toInt = 2 := by rw [e7]; rfl
    refine aw_step (f1 := (11, [some (.int x)], [(.int x6)])) (w1 := w) rfl rfl ?_
    refine aw_ret (v := some (.int x6)) rfl rfl ?_
    exact ⟨rfl, x6, rfl, by omega⟩
theorem f_whyS {d : Nat} {w : am_W} {V st : Nat → Int} {k : Int} (R : RMs w V) (C : JM w st) (B : jB V st k) (hk : 0 ≤ k ∧ k ≤ 1000) (cl rw_ : Int32) (hcl : 0 ≤ cl.toInt ∧ cl.toInt ≤ 5) (hrw : 0 ≤ rw_.toInt ∧ rw_.toInt ≤ 5) (I : ab_inv ab_TT ab_sets w) : aw none (d + 3) 136 (fun r w1 => ab_J ab_TT ab_sets ab_WR w w1 ∧ (fI w1 65 20 = fI w 65 20 ∧ fI w1 65 21 = fI w 65 21) ∧ ∃ z : Int32, r = some (.int z) ∧ ∃ st1, JM w1 st1 ∧ jS V st (cl.toInt + 97) rw_.toInt z.toInt st1) (0, am_entry 136 [.ref 65, .int cl, .int rw_], []) w := by
  have J : ab_J ab_TT ab_sets ab_WR w w := ⟨I, ab_fr.rf⟩
  obtain ⟨c0, c1, c2, c3⟩ := C
  obtain ⟨q0, q1, q2, q3⟩ := B
  have szm := szM_in I
  have hsz := R.sz
  have f0 := R.f0
  have f1 := R.f1
  have b0 := fI_in (p := 65) (k := 0) I rfl rfl
  have b1 := fI_in (p := 65) (k := 1) I rfl rfl
  have hv : (1 ≤ V 0 ∧ V 0 ≤ 6) ∧ 1 ≤ V 1 ∧ V 1 ≤ 6 := by omega
  have q31 := q3 (st 1).toNat (by omega)
  have wb := wrV_b V (toV V (cl.toInt + 97) rw_.toInt)
  have mm : 0 ≤ rw_.toInt * V 1 ∧ rw_.toInt * V 1 ≤ 30 := by
    have := mu_6 (r := rw_.toInt) (b := V 1) (a := 6) (by omega) (by omega) (by omega) (by omega) (by omega)
    omega
  show aw none (d + 3) 136 _ (0, [some (.ref 65), some (.int cl), some (.int rw_), none], []) w
  refine aw_step (f1 := (1, [some (.ref 65), some (.int cl), some (.int rw_), none], [(.int cl)])) (w1 := w) rfl rfl ?_
  refine aw_step (f1 := (2, [some (.ref 65), some (.int cl), some (.int rw_), none], [(.ref 65), (.int cl)])) (w1 := w) rfl rfl ?_
  refine s_gi J 5 rfl rfl rfl rfl rfl rfl fun x1 x1a x1b x1f => ?_
  have x1v : x1.toInt = fI w 65 1 := by rw [← fI_of x1f]
  refine s_ic 16 8 rfl rfl rfl (fun (h2 : x1.toInt ≤ cl.toInt) => ?_) (fun (h2 : ¬ (x1.toInt ≤ cl.toInt)) => ?_)
  · --
    refine s_i (pc1 := 17) (ls1 := [some (.ref 65), some (.int cl), some (.int rw_), none]) (st1 := []) rfl rfl fun x3 e4 => ?_
    have e4t : x3.toInt = 1 := by rw [e4]; rfl
    refine aw_ret (v := some (.int x3)) rfl rfl ?_
    first
      | exact ⟨J, ⟨rfl, rfl⟩, x3, rfl, st, ⟨c0, c1, c2, c3⟩, Or.inr (Or.inr (Or.inl ⟨by omega, by omega, by omega, rfl⟩))⟩
      | exact ⟨J, ⟨rfl, rfl⟩, x3, rfl, st, ⟨c0, c1, c2, c3⟩, Or.inr (Or.inr (Or.inr (Or.inl ⟨by omega, by omega, ⟨by omega, by omega⟩, by omega, rfl⟩)))⟩
      | exact ⟨J, ⟨rfl, rfl⟩, x3, rfl, st, ⟨c0, c1, c2, c3⟩, Or.inr (Or.inr (Or.inr (Or.inr (Or.inl ⟨by omega, by omega, ⟨by omega, by omega⟩, by omega, by omega, rfl⟩))))⟩
      | exact ⟨J, ⟨rfl, rfl⟩, x3, rfl, st, ⟨c0, c1, c2, c3⟩, Or.inr (Or.inr (Or.inr (Or.inr (Or.inr (Or.inl ⟨by omega, by omega, ⟨by omega, by omega⟩, by omega, by omega, by omega, rfl⟩)))))⟩
  · --
    refine aw_step (f1 := (9, [some (.ref 65), some (.int cl), some (.int rw_), none], [(.int rw_)])) (w1 := w) rfl rfl ?_
    refine aw_step (f1 := (10, [some (.ref 65), some (.int cl), some (.int rw_), none], [(.ref 65), (.int rw_)])) (w1 := w) rfl rfl ?_
    refine s_gi J 13 rfl rfl rfl rfl rfl rfl fun x5 x5a x5b x5f => ?_
    have x5v : x5.toInt = fI w 65 0 := by rw [← fI_of x5f]
    refine s_ic 18 16 rfl rfl rfl (fun (h6 : rw_.toInt < x5.toInt) => ?_) (fun (h6 : ¬ (rw_.toInt < x5.toInt)) => ?_)
    · --
      refine aw_step (f1 := (19, [some (.ref 65), some (.int cl), some (.int rw_), none], [(.int rw_)])) (w1 := w) rfl rfl ?_
      refine aw_step (f1 := (20, [some (.ref 65), some (.int cl), some (.int rw_), none], [(.ref 65), (.int rw_)])) (w1 := w) rfl rfl ?_
      refine s_gi J 23 rfl rfl rfl rfl rfl rfl fun x7 x7a x7b x7f => ?_
      have x7v : x7.toInt = fI w 65 1 := by rw [← fI_of x7f]
      --
      refine s_i (pc1 := 24) (ls1 := [some (.ref 65), some (.int cl), some (.int rw_), none]) (st1 := []) rfl rfl fun x8 e9 => ?_
      have e9 : x8 = rw_ * x7 := e9
      have mp : x8.toInt = rw_.toInt * V 1 := by rw [e9, n_mul (by rw [show x7.toInt = V 1 by omega]; omega) (by rw [show x7.toInt = V 1 by omega]; omega), show x7.toInt = V 1 by omega]
      refine aw_step (f1 := (25, [some (.ref 65), some (.int cl), some (.int rw_), none], [(.int cl), (.int x8)])) (w1 := w) rfl rfl ?_
      refine s_i (pc1 := 26) (ls1 := [some (.ref 65), some (.int cl), some (.int rw_), none]) (st1 := []) rfl rfl fun x10 e11 => ?_
      have e11 : x10 = x8 + cl := e11
      have e11t : x10.toInt = x8.toInt + cl.toInt := by rw [e11]; exact n_add (by omega) (by omega)
      have hto : x10.toInt = toV V (cl.toInt + 97) rw_.toInt := by unfold toV; omega
      have hti := toV_in (V := V) (f := cl.toInt + 97) (d := rw_.toInt) hv (by omega) (by omega) ⟨by omega, by omega⟩
      have hls : rI w 66 x10.toInt.toNat = V (40 + (toV V (cl.toInt + 97) rw_.toInt).toNat) := by rw [hto]; exact R.rc (by omega)
      refine aw_step (f1 := (27, [some (.ref 65), some (.int cl), some (.int rw_), some (.int x10)], [])) (w1 := w) rfl rfl ?_
      refine aw_step (f1 := (28, [some (.ref 65), some (.int cl), some (.int rw_), some (.int x10)], [(.ref 65)])) (w1 := w) rfl rfl ?_
      refine aw_step (f1 := (29, [some (.ref 65), some (.int cl), some (.int rw_), some (.int x10)], [(.int x10), (.ref 65)])) (w1 := w) rfl rfl ?_
      refine s_cv (z := 115) (p := 65) (as := [(.int x10)]) (st1 := []) J 32 rfl rfl rfl rfl rfl rfl rfl rfl (Nat.le_of_ble_eq_true rfl) (Nat.le_of_ble_eq_true rfl) (q_isLand x10 J.1) ?_
      rintro _ _ ⟨rfl, x12, rfl, x12t⟩
      refine ⟨rfl, ?_⟩
      show aw none _ 136 _ (32, [some (.ref 65), some (.int cl), some (.int rw_), some (.int x10)], [(.int x12)]) w
      have x12s := szM_in J.1
      refine s_if 37 35 rfl rfl rfl (fun (h13 : ¬ x12.toInt = 0) => ?_) (fun (h13 : ¬ (¬ x12.toInt = 0)) => ?_)
      · --
        refine aw_step (f1 := (38, [some (.ref 65), some (.int cl), some (.int rw_), some (.int x10)], [(.ref 65)])) (w1 := w) rfl rfl ?_
        refine aw_step (f1 := (39, [some (.ref 65), some (.int cl), some (.int rw_), some (.int x10)], [(.ref 65), (.ref 65)])) (w1 := w) rfl rfl ?_
        refine s_gi J 42 rfl rfl rfl rfl rfl rfl fun x14 x14a x14b x14f => ?_
        have x14v : x14.toInt = fI w 65 22 := by rw [← fI_of x14f]
        refine aw_step (f1 := (43, [some (.ref 65), some (.int cl), some (.int rw_), some (.int x10)], [(.int x10), (.int x14), (.ref 65)])) (w1 := w) rfl rfl ?_
        refine s_cv (z := 130) (p := 65) (as := [(.int x14), (.int x10)]) (st1 := []) J 46 rfl rfl rfl rfl rfl rfl rfl rfl (Nat.le_of_ble_eq_true rfl) (Nat.le_of_ble_eq_true rfl) (q_square x14 x10 ⟨by omega, by omega⟩ ⟨by omega, by omega⟩ J.1) ?_
        rintro _ _ ⟨rfl, x15, rfl, x15t⟩
        refine ⟨rfl, ?_⟩
        show aw none _ 136 _ (46, [some (.ref 65), some (.int cl), some (.int rw_), some (.int x10)], [(.int x15)]) w
        rw [R.f1] at x15t
        have hsq : x15.toInt = sqM (V 1) (st 0) (toV V (cl.toInt + 97) rw_.toInt) := by rw [x15t, show x14.toInt = st 0 by omega, hto]
        refine aw_step (f1 := (47, [some (.ref 65), some (.int cl), some (.int rw_), some (.int x10)], [(.ref 65), (.int x15)])) (w1 := w) rfl rfl ?_
        refine s_gr 67 J 50 rfl rfl rfl rfl rfl rfl ?_
        refine aw_step (f1 := (51, [some (.ref 65), some (.int cl), some (.int rw_), some (.int x10)], [(.ref 65), (.ref 67), (.int x15)])) (w1 := w) rfl rfl ?_
        refine s_gi J 54 rfl rfl rfl rfl rfl rfl fun x16 x16a x16b x16f => ?_
        have x16v : x16.toInt = fI w 65 23 := by rw [← fI_of x16f]
        --
        refine s_ia J 55 rfl rfl rfl rfl (by omega) (by omega) fun x17 x17a x17b x17f => ?_
        have x17v : x17.toInt = rI w 67 x16.toInt.toNat := by rw [← rI_of x17f]
        have hle : x17.toInt = V (8 + 4 * (st 1).toNat + 0) := by rw [x17v, show x16.toInt.toNat = (st 1).toNat by omega]; exact R.ra (i := (st 1).toNat) (c := 0) (by omega) (by decide)
        refine s_ic 60 58 rfl rfl rfl (fun (h18 : x15.toInt = x17.toInt) => ?_) (fun (h18 : ¬ (x15.toInt = x17.toInt)) => ?_)
        · --
          refine aw_step (f1 := (61, [some (.ref 65), some (.int cl), some (.int rw_), some (.int x10)], [(.ref 65)])) (w1 := w) rfl rfl ?_
          refine s_gr 76 J 64 rfl rfl rfl rfl rfl rfl ?_
          refine aw_step (f1 := (65, [some (.ref 65), some (.int cl), some (.int rw_), some (.int x10)], [(.ref 65), (.ref 76)])) (w1 := w) rfl rfl ?_
          refine s_gi J 68 rfl rfl rfl rfl rfl rfl fun x19 x19a x19b x19f => ?_
          have x19v : x19.toInt = fI w 65 23 := by rw [← fI_of x19f]
          --
          refine s_ia J 69 rfl rfl rfl rfl (by omega) (by omega) fun x20 x20a x20b x20f => ?_
          have x20v : x20.toInt = rI w 76 x19.toInt.toNat := by rw [← rI_of x20f]
          have hw1 : x20.toInt = st (3 + (st 1).toNat) := by rw [x20v, show x19.toInt.toNat = (st 1).toNat by omega]; exact c3 _ (by omega)
          refine aw_step (f1 := (70, [some (.ref 65), some (.int cl), some (.int rw_), some (.int x10)], [(.ref 65), (.int x20)])) (w1 := w) rfl rfl ?_
          refine s_gr 66 J 73 rfl rfl rfl rfl rfl rfl ?_
          refine aw_step (f1 := (74, [some (.ref 65), some (.int cl), some (.int rw_), some (.int x10)], [(.int x10), (.ref 66), (.int x20)])) (w1 := w) rfl rfl ?_
          refine s_ia J 75 rfl rfl rfl rfl (by omega) (by omega) fun x21 x21a x21b x21f => ?_
          have x21v : x21.toInt = rI w 66 x10.toInt.toNat := by rw [← rI_of x21f]
          refine s_cs (z := 135) (as := [(.int x21)]) (st1 := [(.int x20)]) 78 rfl rfl rfl rfl rfl rfl (Nat.le_of_ble_eq_true rfl) (Nat.le_of_ble_eq_true rfl) (Nat.le_of_ble_eq_true rfl) (f_wearOf x21) ?_
          rintro _ _ ⟨rfl, x22, rfl, x22t⟩
          refine ⟨rfl, ?_⟩
          show aw none _ 136 _ (78, [some (.ref 65), some (.int cl), some (.int rw_), some (.int x10)], [(.int x22), (.int x20)]) w
          have x22q : x22.toInt = wrV V (toV V (cl.toInt + 97) rw_.toInt) := by
            unfold wrV
            have sg : x21.toInt = V (40 + (toV V (cl.toInt + 97) rw_.toInt).toNat) := by rw [x21v, show x10.toInt = toV V (cl.toInt + 97) rw_.toInt from hto]; exact R.rc (by omega)
            rw [← sg]
            split <;> omega
          refine s_i (pc1 := 79) (ls1 := [some (.ref 65), some (.int cl), some (.int rw_), some (.int x10)]) (st1 := []) rfl rfl fun x23 e24 => ?_
          have e24 : x23 = x20 + x22 := e24
          have e24t : x23.toInt = x20.toInt + x22.toInt := by rw [e24]; exact n_add (by omega) (by omega)
          refine aw_step (f1 := (80, [some (.ref 65), some (.int cl), some (.int rw_), some (.int x10)], [(.ref 65), (.int x23)])) (w1 := w) rfl rfl ?_
          refine s_gr 68 J 83 rfl rfl rfl rfl rfl rfl ?_
          refine aw_step (f1 := (84, [some (.ref 65), some (.int cl), some (.int rw_), some (.int x10)], [(.ref 65), (.ref 68), (.int x23)])) (w1 := w) rfl rfl ?_
          refine s_gi J 87 rfl rfl rfl rfl rfl rfl fun x25 x25a x25b x25f => ?_
          have x25v : x25.toInt = fI w 65 23 := by rw [← fI_of x25f]
          --
          refine s_ia J 88 rfl rfl rfl rfl (by omega) (by omega) fun x26 x26a x26b x26f => ?_
          have x26v : x26.toInt = rI w 68 x25.toInt.toNat := by rw [← rI_of x26f]
          have hhe : x26.toInt = V (8 + 4 * (st 1).toNat + 1) := by rw [x26v, show x25.toInt.toNat = (st 1).toNat by omega]; exact R.ra (i := (st 1).toNat) (c := 1) (by omega) (by decide)
          refine s_ic 93 91 rfl rfl rfl (fun (h27 : x23.toInt ≤ x26.toInt) => ?_) (fun (h27 : ¬ (x23.toInt ≤ x26.toInt)) => ?_)
          · --
            refine aw_step (f1 := (94, [some (.ref 65), some (.int cl), some (.int rw_), some (.int x10)], [(.ref 65)])) (w1 := w) rfl rfl ?_
            refine s_gr 76 J 97 rfl rfl rfl rfl rfl rfl ?_
            refine aw_step (f1 := (98, [some (.ref 65), some (.int cl), some (.int rw_), some (.int x10)], [(.ref 65), (.ref 76)])) (w1 := w) rfl rfl ?_
            refine s_gi J 101 rfl rfl rfl rfl rfl rfl fun x28 x28a x28b x28f => ?_
            have x28v : x28.toInt = fI w 65 23 := by rw [← fI_of x28f]
            refine aw_step (f1 := (102, [some (.ref 65), some (.int cl), some (.int rw_), some (.int x10)], [(.int x28), (.ref 76), (.int x28), (.ref 76)])) (w1 := w) rfl rfl ?_
            --
            refine s_ia J 103 rfl rfl rfl rfl (by omega) (by omega) fun x29 x29a x29b x29f => ?_
            have x29v : x29.toInt = rI w 76 x28.toInt.toNat := by rw [← rI_of x29f]
            have hw2 : x29.toInt = st (3 + (st 1).toNat) := by rw [x29v, show x28.toInt.toNat = (st 1).toNat by omega]; exact c3 _ (by omega)
            refine aw_step (f1 := (104, [some (.ref 65), some (.int cl), some (.int rw_), some (.int x10)], [(.ref 65), (.int x29), (.int x28), (.ref 76)])) (w1 := w) rfl rfl ?_
            refine s_gr 66 J 107 rfl rfl rfl rfl rfl rfl ?_
            refine aw_step (f1 := (108, [some (.ref 65), some (.int cl), some (.int rw_), some (.int x10)], [(.int x10), (.ref 66), (.int x29), (.int x28), (.ref 76)])) (w1 := w) rfl rfl ?_
            refine s_ia J 109 rfl rfl rfl rfl (by omega) (by omega) fun x30 x30a x30b x30f => ?_
            have x30v : x30.toInt = rI w 66 x10.toInt.toNat := by rw [← rI_of x30f]
            refine s_cs (z := 135) (as := [(.int x30)]) (st1 := [(.int x29), (.int x28), (.ref 76)]) 112 rfl rfl rfl rfl rfl rfl (Nat.le_of_ble_eq_true rfl) (Nat.le_of_ble_eq_true rfl) (Nat.le_of_ble_eq_true rfl) (f_wearOf x30) ?_
            rintro _ _ ⟨rfl, x31, rfl, x31t⟩
            refine ⟨rfl, ?_⟩
            show aw none _ 136 _ (112, [some (.ref 65), some (.int cl), some (.int rw_), some (.int x10)], [(.int x31), (.int x29), (.int x28), (.ref 76)]) w
            have x31q : x31.toInt = wrV V (toV V (cl.toInt + 97) rw_.toInt) := by
              unfold wrV
              have sg : x30.toInt = V (40 + (toV V (cl.toInt + 97) rw_.toInt).toNat) := by rw [x30v, show x10.toInt = toV V (cl.toInt + 97) rw_.toInt from hto]; exact R.rc (by omega)
              rw [← sg]
              split <;> omega
            refine s_i (pc1 := 113) (ls1 := [some (.ref 65), some (.int cl), some (.int rw_), some (.int x10)]) (st1 := [(.int x28), (.ref 76)]) rfl rfl fun x32 e33 => ?_
            have e33 : x32 = x29 + x31 := e33
            have e33t : x32.toInt = x29.toInt + x31.toInt := by rw [e33]; exact n_add (by omega) (by omega)
            refine s_is J 114 rfl rfl rfl rfl (by omega) (by omega) (by omega) (by omega) fun w34 J35 w34e => ?_
            have w34f := rI_st J.1 (p := 76) (j := x28.toInt.toNat) rfl (by omega) w34e
            refine aw_step (f1 := (115, [some (.ref 65), some (.int cl), some (.int rw_), some (.int x10)], [(.ref 65)])) (w1 := w34) rfl rfl ?_
            refine aw_step (f1 := (116, [some (.ref 65), some (.int cl), some (.int rw_), some (.int x10)], [(.int x10), (.ref 65)])) (w1 := w34) rfl rfl ?_
            refine s_pi J35 119 rfl rfl rfl rfl rfl rfl rfl (by omega) (by omega) fun w36 J37 w36e => ?_
            have w36f := fv_st J35.1 (p := 65) (kf := 22) rfl (by decide) w36e
            refine aw_step (f1 := (120, [some (.ref 65), some (.int cl), some (.int rw_), some (.int x10)], [(.ref 65)])) (w1 := w36) rfl rfl ?_
            refine aw_step (f1 := (121, [some (.ref 65), some (.int cl), some (.int rw_), some (.int x10)], [(.ref 65), (.ref 65)])) (w1 := w36) rfl rfl ?_
            refine s_gi J37 124 rfl rfl rfl rfl rfl rfl fun x38 x38a x38b x38f => ?_
            have x38v : x38.toInt = fI w 65 24 := by rw [← fI_of x38f, fI_eq (w36f.2.2 24 (by decide)), w34f.1.fIe (by decide)]
            refine s_i (pc1 := 125) (ls1 := [some (.ref 65), some (.int cl), some (.int rw_), some (.int x10)]) (st1 := [(.int x38), (.ref 65)]) rfl rfl fun x39 e40 => ?_
            have e40t : x39.toInt = 1 := by rw [e40]; rfl
            refine s_i (pc1 := 126) (ls1 := [some (.ref 65), some (.int cl), some (.int rw_), some (.int x10)]) (st1 := [(.ref 65)]) rfl rfl fun x41 e42 => ?_
            have e42 : x41 = x38 + x39 := e42
            have e42t : x41.toInt = x38.toInt + x39.toInt := by rw [e42]; exact n_add (by omega) (by omega)
            refine s_pi J37 129 rfl rfl rfl rfl rfl rfl rfl (by omega) (by omega) fun w43 J44 w43e => ?_
            have w43f := fv_st J37.1 (p := 65) (kf := 24) rfl (by decide) w43e
            refine s_i (pc1 := 130) (ls1 := [some (.ref 65), some (.int cl), some (.int rw_), some (.int x10)]) (st1 := []) rfl rfl fun x45 e46 => ?_
            have e46t : x45.toInt = 0 := by rw [e46]; rfl
            refine aw_ret (v := some (.int x45)) rfl rfl ?_
            have uc : upv (upv (upv st (3 + (st 1).toNat) (st (3 + (st 1).toNat) + wrV V (toV V (cl.toInt + 97) rw_.toInt))) 0 (toV V (cl.toInt + 97) rw_.toInt)) 2 (st 2 + 1) = upv (upv (upv st (3 + (st 1).toNat) (st (3 + (st 1).toNat) + wrV V (toV V (cl.toInt + 97) rw_.toInt))) 2 (st 2 + 1)) 0 (toV V (cl.toInt + 97) rw_.toInt) := upv_c (by decide)
            refine ⟨J44, ⟨by rw [fI_eq (w43f.2.2 20 (by decide)), fI_eq (w36f.2.2 20 (by decide)), w34f.1.fIe (by decide)], by rw [fI_eq (w43f.2.2 21 (by decide)), fI_eq (w36f.2.2 21 (by decide)), w34f.1.fIe (by decide)]⟩, x45, rfl, _, ⟨by rw [fI_eq (w43f.2.2 22 (by decide)), fI_of w36f.2.1, upv_s]; exact hto, by rw [fI_eq (w43f.2.2 23 (by decide)), fI_eq (w36f.2.2 23 (by decide)), w34f.1.fIe (by decide), upv_n (by decide), upv_n (by decide), upv_n (by omega)]; exact c1, by rw [fI_of w43f.2.1, upv_n (by decide), upv_s]; omega, fun k hk => ?_⟩, Or.inr (Or.inr (Or.inr (Or.inr (Or.inr (Or.inr (⟨by omega, by omega, ⟨by omega, by omega⟩, by omega, by omega, by omega, rfl⟩))))))⟩
            rw [w43f.1.rIe (by decide), w36f.1.rIe (by decide), upv_n (by omega), upv_n (by omega)]
            by_cases e : k = (st 1).toNat
            · have q5 : x28.toInt.toNat = (st 1).toNat := by omega
              have q6 := w34f.2.1
              rw [q5] at q6
              rw [e, upv_s, q6]; omega
            · rw [upv_n (by omega), w34f.2.2 k (by omega)]; exact c3 k hk
          · --
            refine s_i (pc1 := 92) (ls1 := [some (.ref 65), some (.int cl), some (.int rw_), some (.int x10)]) (st1 := []) rfl rfl fun x47 e48 => ?_
            have e48t : x47.toInt = 4 := by rw [e48]; rfl
            refine aw_ret (v := some (.int x47)) rfl rfl ?_
            first
              | exact ⟨J, ⟨rfl, rfl⟩, x47, rfl, st, ⟨c0, c1, c2, c3⟩, Or.inr (Or.inr (Or.inl ⟨by omega, by omega, by omega, rfl⟩))⟩
              | exact ⟨J, ⟨rfl, rfl⟩, x47, rfl, st, ⟨c0, c1, c2, c3⟩, Or.inr (Or.inr (Or.inr (Or.inl ⟨by omega, by omega, ⟨by omega, by omega⟩, by omega, rfl⟩)))⟩
              | exact ⟨J, ⟨rfl, rfl⟩, x47, rfl, st, ⟨c0, c1, c2, c3⟩, Or.inr (Or.inr (Or.inr (Or.inr (Or.inl ⟨by omega, by omega, ⟨by omega, by omega⟩, by omega, by omega, rfl⟩))))⟩
              | exact ⟨J, ⟨rfl, rfl⟩, x47, rfl, st, ⟨c0, c1, c2, c3⟩, Or.inr (Or.inr (Or.inr (Or.inr (Or.inr (Or.inl ⟨by omega, by omega, ⟨by omega, by omega⟩, by omega, by omega, by omega, rfl⟩)))))⟩
        · --
          refine s_i (pc1 := 59) (ls1 := [some (.ref 65), some (.int cl), some (.int rw_), some (.int x10)]) (st1 := []) rfl rfl fun x49 e50 => ?_
          have e50t : x49.toInt = 3 := by rw [e50]; rfl
          refine aw_ret (v := some (.int x49)) rfl rfl ?_
          first
            | exact ⟨J, ⟨rfl, rfl⟩, x49, rfl, st, ⟨c0, c1, c2, c3⟩, Or.inr (Or.inr (Or.inl ⟨by omega, by omega, by omega, rfl⟩))⟩
            | exact ⟨J, ⟨rfl, rfl⟩, x49, rfl, st, ⟨c0, c1, c2, c3⟩, Or.inr (Or.inr (Or.inr (Or.inl ⟨by omega, by omega, ⟨by omega, by omega⟩, by omega, rfl⟩)))⟩
            | exact ⟨J, ⟨rfl, rfl⟩, x49, rfl, st, ⟨c0, c1, c2, c3⟩, Or.inr (Or.inr (Or.inr (Or.inr (Or.inl ⟨by omega, by omega, ⟨by omega, by omega⟩, by omega, by omega, rfl⟩))))⟩
            | exact ⟨J, ⟨rfl, rfl⟩, x49, rfl, st, ⟨c0, c1, c2, c3⟩, Or.inr (Or.inr (Or.inr (Or.inr (Or.inr (Or.inl ⟨by omega, by omega, ⟨by omega, by omega⟩, by omega, by omega, by omega, rfl⟩)))))⟩
      · --
        refine s_i (pc1 := 36) (ls1 := [some (.ref 65), some (.int cl), some (.int rw_), some (.int x10)]) (st1 := []) rfl rfl fun x51 e52 => ?_
        have e52t : x51.toInt = 2 := by rw [e52]; rfl
        refine aw_ret (v := some (.int x51)) rfl rfl ?_
        first
          | exact ⟨J, ⟨rfl, rfl⟩, x51, rfl, st, ⟨c0, c1, c2, c3⟩, Or.inr (Or.inr (Or.inl ⟨by omega, by omega, by omega, rfl⟩))⟩
          | exact ⟨J, ⟨rfl, rfl⟩, x51, rfl, st, ⟨c0, c1, c2, c3⟩, Or.inr (Or.inr (Or.inr (Or.inl ⟨by omega, by omega, ⟨by omega, by omega⟩, by omega, rfl⟩)))⟩
          | exact ⟨J, ⟨rfl, rfl⟩, x51, rfl, st, ⟨c0, c1, c2, c3⟩, Or.inr (Or.inr (Or.inr (Or.inr (Or.inl ⟨by omega, by omega, ⟨by omega, by omega⟩, by omega, by omega, rfl⟩))))⟩
          | exact ⟨J, ⟨rfl, rfl⟩, x51, rfl, st, ⟨c0, c1, c2, c3⟩, Or.inr (Or.inr (Or.inr (Or.inr (Or.inr (Or.inl ⟨by omega, by omega, ⟨by omega, by omega⟩, by omega, by omega, by omega, rfl⟩)))))⟩
    · --
      refine s_i (pc1 := 17) (ls1 := [some (.ref 65), some (.int cl), some (.int rw_), none]) (st1 := []) rfl rfl fun x53 e54 => ?_
      have e54t : x53.toInt = 1 := by rw [e54]; rfl
      refine aw_ret (v := some (.int x53)) rfl rfl ?_
      first
        | exact ⟨J, ⟨rfl, rfl⟩, x53, rfl, st, ⟨c0, c1, c2, c3⟩, Or.inr (Or.inr (Or.inl ⟨by omega, by omega, by omega, rfl⟩))⟩
        | exact ⟨J, ⟨rfl, rfl⟩, x53, rfl, st, ⟨c0, c1, c2, c3⟩, Or.inr (Or.inr (Or.inr (Or.inl ⟨by omega, by omega, ⟨by omega, by omega⟩, by omega, rfl⟩)))⟩
        | exact ⟨J, ⟨rfl, rfl⟩, x53, rfl, st, ⟨c0, c1, c2, c3⟩, Or.inr (Or.inr (Or.inr (Or.inr (Or.inl ⟨by omega, by omega, ⟨by omega, by omega⟩, by omega, by omega, rfl⟩))))⟩
        | exact ⟨J, ⟨rfl, rfl⟩, x53, rfl, st, ⟨c0, c1, c2, c3⟩, Or.inr (Or.inr (Or.inr (Or.inr (Or.inr (Or.inl ⟨by omega, by omega, ⟨by omega, by omega⟩, by omega, by omega, by omega, rfl⟩)))))⟩
theorem f_gwL {d : Nat} {w00 : am_W} {V P : Nat → Int} {n : Int} (R00 : RMs w00 V) (RP : RMp w00 n P) (hw : wlk P n) (I0 : ab_inv ab_TT ab_sets w00) : ∀ (m : Nat) (w : am_W) (st : Nat → Int) (i : Int32) (o2 o3 : Option Value), (n - i.toInt).toNat < m → 0 ≤ i.toInt → i.toInt ≤ n → ab_J ab_TT ab_sets ab_WR w00 w → JM w st → fI w 65 20 = -6 → fI w 65 21 = -6 → wkI V P st n i.toInt → aw none (d + 4) 138 (fun r w1 => r = none ∧ ab_J ab_TT ab_sets ab_WR w00 w1 ∧ ∃ st, JM w1 st ∧ jE V P (n / 2).toNat (fI w1 65 20) (fI w1 65 21) st) (52, [some (.ref 65), some (.int i), o2, o3], []) w := by
  have szm := szM_in I0
  have hsz := R00.sz
  have f0 := R00.f0
  have f1 := R00.f1
  have b0 := fI_in (p := 65) (k := 0) I0 rfl rfl
  have b1 := fI_in (p := 65) (k := 1) I0 rfl rfl
  have nb := fI_in (p := 65) (k := 16) I0 rfl rfl
  have hn := RP.1
  have hv : (1 ≤ V 0 ∧ V 0 ≤ 6) ∧ 1 ≤ V 1 ∧ V 1 ≤ 6 := by omega
  have w2 := hw.1
  intro m
  induction m with
  | zero => intro w st i o2 o3 p; omega
  | succ m ih =>
    intro w st i o2 o3 p1 p2 p3 J C k0 k1 F
    have R := R00.wr I0 J
    have RPw := RP.wr I0 J
    have cn := RPw.1
    have Fi := F.1
    refine aw_step (f1 := (53, [some (.ref 65), some (.int i), o2, o3], [(.int i)])) (w1 := w) rfl rfl ?_
    refine aw_step (f1 := (54, [some (.ref 65), some (.int i), o2, o3], [(.ref 65), (.int i)])) (w1 := w) rfl rfl ?_
    refine s_gi J 57 rfl rfl rfl rfl rfl rfl fun x1 x1a x1b x1f => ?_
    have x1v : x1.toInt = fI w 65 16 := by rw [← fI_of x1f]
    refine s_ic 149 60 rfl rfl rfl (fun (h2 : x1.toInt ≤ i.toInt) => ?_) (fun (h2 : ¬ (x1.toInt ≤ i.toInt)) => ?_)
    · --
      refine aw_ret (v := none) rfl rfl ?_
      first
        | (exfalso; omega)
        | exact ⟨rfl, J, st, C, Or.inl ⟨k0, k1, by rw [← show i.toInt = n by omega]; exact F.2.1⟩⟩
    · --
      refine aw_step (f1 := (61, [some (.ref 65), some (.int i), o2, o3], [(.ref 65)])) (w1 := w) rfl rfl ?_
      refine s_gi J 64 rfl rfl rfl rfl rfl rfl fun x3 x3a x3b x3f => ?_
      have x3v : x3.toInt = fI w 65 20 := by rw [← fI_of x3f]
      refine s_if 149 67 rfl rfl rfl (fun (h4 : 0 ≤ x3.toInt) => ?_) (fun (h4 : ¬ (0 ≤ x3.toInt)) => ?_)
      · --
        refine aw_ret (v := none) rfl rfl ?_
        first
          | (exfalso; omega)
          | exact ⟨rfl, J, st, C, Or.inl ⟨k0, k1, by rw [← show i.toInt = n by omega]; exact F.2.1⟩⟩
      · --
        have o1 := hw.2 i.toInt.toNat (by omega)
        have o2' := hw.2 (i.toInt + 1).toNat (by omega)
        have eo : (i.toInt + 1).toNat - 1 = i.toInt.toNat := by omega
        unfold okW at o1 o2'
        rw [eo] at o2'
        have s1 : rI w 73 i.toInt.toNat = P i.toInt.toNat := RPw.2 _
        have s2 : rI w 73 (i.toInt + 1).toNat = P (i.toInt + 1).toNat := RPw.2 _
        refine aw_step (f1 := (68, [some (.ref 65), some (.int i), o2, o3], [(.ref 65)])) (w1 := w) rfl rfl ?_
        refine s_gr 73 J 71 rfl rfl rfl rfl rfl rfl ?_
        refine aw_step (f1 := (72, [some (.ref 65), some (.int i), o2, o3], [(.int i), (.ref 73)])) (w1 := w) rfl rfl ?_
        refine s_i (pc1 := 73) (ls1 := [some (.ref 65), some (.int i), o2, o3]) (st1 := [(.int i), (.ref 73)]) rfl rfl fun x5 e6 => ?_
        have e6t : x5.toInt = 1 := by rw [e6]; rfl
        refine s_i (pc1 := 74) (ls1 := [some (.ref 65), some (.int i), o2, o3]) (st1 := [(.ref 73)]) rfl rfl fun x7 e8 => ?_
        have e8 : x7 = i + x5 := e8
        have e8t : x7.toInt = i.toInt + x5.toInt := by rw [e8]; exact n_add (by omega) (by omega)
        --
        refine s_ia J 75 rfl rfl rfl rfl (by omega) (by omega) fun x9 x9a x9b x9f => ?_
        have x9v : x9.toInt = rI w 73 x7.toInt.toNat := by rw [← rI_of x9f]
        rw [show x7.toInt.toNat = (i.toInt + 1).toNat by omega] at x9v
        refine s_i (pc1 := 77) (ls1 := [some (.ref 65), some (.int i), o2, o3]) (st1 := [(.int x9)]) rfl rfl fun x10 e11 => ?_
        have e11t : x10.toInt = 48 := by rw [e11]; rfl
        refine s_i (pc1 := 78) (ls1 := [some (.ref 65), some (.int i), o2, o3]) (st1 := []) rfl rfl fun x12 e13 => ?_
        have e13 : x12 = x9 - x10 := e13
        have e13t : x12.toInt = x9.toInt - x10.toInt := by rw [e13]; exact n_sub (by omega) (by omega)
        refine aw_step (f1 := (79, [some (.ref 65), some (.int i), some (.int x12), o3], [])) (w1 := w) rfl rfl ?_
        refine aw_step (f1 := (80, [some (.ref 65), some (.int i), some (.int x12), o3], [(.ref 65)])) (w1 := w) rfl rfl ?_
        refine s_gr 73 J 83 rfl rfl rfl rfl rfl rfl ?_
        refine aw_step (f1 := (84, [some (.ref 65), some (.int i), some (.int x12), o3], [(.int i), (.ref 73)])) (w1 := w) rfl rfl ?_
        refine s_ia J 85 rfl rfl rfl rfl (by omega) (by omega) fun x14 x14a x14b x14f => ?_
        have x14v : x14.toInt = rI w 73 i.toInt.toNat := by rw [← rI_of x14f]
        refine s_i (pc1 := 87) (ls1 := [some (.ref 65), some (.int i), some (.int x12), o3]) (st1 := [(.int x14)]) rfl rfl fun x15 e16 => ?_
        have e16t : x15.toInt = 35 := by rw [e16]; rfl
        refine s_ic 98 90 rfl rfl rfl (fun (h17 : ¬ x14.toInt = x15.toInt) => ?_) (fun (h17 : ¬ (¬ x14.toInt = x15.toInt)) => ?_)
        · --
          refine aw_step (f1 := (99, [some (.ref 65), some (.int i), some (.int x12), o3], [(.ref 65)])) (w1 := w) rfl rfl ?_
          refine aw_step (f1 := (100, [some (.ref 65), some (.int i), some (.int x12), o3], [(.ref 65), (.ref 65)])) (w1 := w) rfl rfl ?_
          refine s_gr 73 J 103 rfl rfl rfl rfl rfl rfl ?_
          refine aw_step (f1 := (104, [some (.ref 65), some (.int i), some (.int x12), o3], [(.int i), (.ref 73), (.ref 65)])) (w1 := w) rfl rfl ?_
          refine s_ia J 105 rfl rfl rfl rfl (by omega) (by omega) fun x18 x18a x18b x18f => ?_
          have x18v : x18.toInt = rI w 73 i.toInt.toNat := by rw [← rI_of x18f]
          refine s_i (pc1 := 107) (ls1 := [some (.ref 65), some (.int i), some (.int x12), o3]) (st1 := [(.int x18), (.ref 65)]) rfl rfl fun x19 e20 => ?_
          have e20t : x19.toInt = 97 := by rw [e20]; rfl
          refine s_i (pc1 := 108) (ls1 := [some (.ref 65), some (.int i), some (.int x12), o3]) (st1 := [(.ref 65)]) rfl rfl fun x21 e22 => ?_
          have e22 : x21 = x18 - x19 := e22
          have e22t : x21.toInt = x18.toInt - x19.toInt := by rw [e22]; exact n_sub (by omega) (by omega)
          refine aw_step (f1 := (109, [some (.ref 65), some (.int i), some (.int x12), o3], [(.int x12), (.int x21), (.ref 65)])) (w1 := w) rfl rfl ?_
          refine s_cv (z := 136) (p := 65) (as := [(.int x21), (.int x12)]) (st1 := []) J 112 rfl rfl rfl rfl rfl rfl rfl rfl (Nat.le_of_ble_eq_true rfl) (Nat.le_of_ble_eq_true rfl) (f_whyS R C F.2.2 ⟨by omega, by omega⟩ x21 x12 ⟨by omega, by omega⟩ ⟨by omega, by omega⟩ J.1) ?_
          rintro _ w24 ⟨J25c, w24k, x23, rfl, w24s, w24C, w24S⟩
          have J25 := J.trans J25c
          refine ⟨am_len2 J J25c, ?_⟩
          show aw none _ 138 _ (112, [some (.ref 65), some (.int i), some (.int x12), o3], [(.int x23)]) w24
          refine aw_step (f1 := (113, [some (.ref 65), some (.int i), some (.int x12), some (.int x23)], [])) (w1 := w24) rfl rfl ?_
          refine aw_step (f1 := (114, [some (.ref 65), some (.int i), some (.int x12), some (.int x23)], [(.ref 65)])) (w1 := w24) rfl rfl ?_
          refine aw_step (f1 := (115, [some (.ref 65), some (.int i), some (.int x12), some (.int x23)], [(.int x23), (.ref 65)])) (w1 := w24) rfl rfl ?_
          refine s_if 124 118 rfl rfl rfl (fun (h26 : x23.toInt ≤ 0) => ?_) (fun (h26 : ¬ (x23.toInt ≤ 0)) => ?_)
          · --
            --
            refine s_i (pc1 := 126) (ls1 := [some (.ref 65), some (.int i), some (.int x12), some (.int x23)]) (st1 := [(.ref 65)]) rfl rfl fun x27 e28 => ?_
            have e28t : x27.toInt = -6 := by rw [e28]; rfl
            refine s_pi J25 129 rfl rfl rfl rfl rfl rfl rfl (by omega) (by omega) fun w29 J30 w29e => ?_
            have w29f := fv_st J25.1 (p := 65) (kf := 20) rfl (by decide) w29e
            refine aw_step (f1 := (130, [some (.ref 65), some (.int i), some (.int x12), some (.int x23)], [(.ref 65)])) (w1 := w29) rfl rfl ?_
            refine aw_step (f1 := (131, [some (.ref 65), some (.int i), some (.int x12), some (.int x23)], [(.int x23), (.ref 65)])) (w1 := w29) rfl rfl ?_
            refine s_if 138 134 rfl rfl rfl (fun (h31 : x23.toInt ≤ 0) => ?_) (fun (h31 : ¬ (x23.toInt ≤ 0)) => ?_)
            · --
              --
              refine s_i (pc1 := 140) (ls1 := [some (.ref 65), some (.int i), some (.int x12), some (.int x23)]) (st1 := [(.ref 65)]) rfl rfl fun x32 e33 => ?_
              have e33t : x32.toInt = -6 := by rw [e33]; rfl
              refine s_pi J30 143 rfl rfl rfl rfl rfl rfl rfl (by omega) (by omega) fun w34 J35 w34e => ?_
              have w34f := fv_st J30.1 (p := 65) (kf := 21) rfl (by decide) w34e
              refine aw_step (f1 := (146, [some (.ref 65), some (.int (i + Int32.ofInt 2)), some (.int x12), some (.int x23)], [])) (w1 := w34) rfl rfl ?_
              obtain ⟨x36, x36e⟩ : ∃ z, z = (i + Int32.ofInt 2) := ⟨_, rfl⟩
              have x36t : x36.toInt = i.toInt + (2) := by rw [x36e]; exact n_add (y := Int32.ofInt (2)) (by show _ ≤ _ + (2 : Int); omega) (by show _ + (2 : Int) ≤ _; omega)
              rw [← x36e]
              refine aw_step (f1 := (52, [some (.ref 65), some (.int x36), some (.int x12), some (.int x23)], [])) (w1 := w34) rfl rfl ?_
              have jm : JM w34 w24s := by
                have q := w24C
                exact ⟨by rw [fI_eq (w34f.2.2 22 (by decide)), fI_eq (w29f.2.2 22 (by decide))]; exact q.1, by rw [fI_eq (w34f.2.2 23 (by decide)), fI_eq (w29f.2.2 23 (by decide))]; exact q.2.1, by rw [fI_eq (w34f.2.2 24 (by decide)), fI_eq (w29f.2.2 24 (by decide))]; exact q.2.2.1, fun k hk => by rw [w34f.1.rIe (by decide), w29f.1.rIe (by decide)]; exact q.2.2.2 k hk⟩
              have e20 : fI w34 65 20 = x27.toInt := by rw [fI_eq (w34f.2.2 20 (by decide)), fI_of w29f.2.1]
              have e21 : fI w34 65 21 = x32.toInt := by rw [fI_of w34f.2.1]
              exact ih w34 w24s x36 _ _ (by omega) (by omega) (by omega) J35 jm (by omega) (by omega) (by rw [show x36.toInt = i.toInt + 2 by omega]; exact F.st (f := x21.toInt + 97) (d := x12.toInt) hw (by omega) hv (by omega) (by omega) (Classical.byContradiction fun q => by have := (jS_pos w24S q).1; omega) w24S)
            · --
              have zb := ab_any32 x23
              unfold ab_lo32 ab_hi32 at zb
              refine aw_step (f1 := (135, [some (.ref 65), some (.int i), some (.int x12), some (.int x23)], [(.int x23), (.ref 65)])) (w1 := w29) rfl rfl ?_
              refine aw_step (f1 := (140, [some (.ref 65), some (.int i), some (.int x12), some (.int x23)], [(.int x23), (.ref 65)])) (w1 := w29) rfl rfl ?_
              refine s_pi J30 143 rfl rfl rfl rfl rfl rfl rfl (by omega) (by omega) fun w37 J38 w37e => ?_
              have w37f := fv_st J30.1 (p := 65) (kf := 21) rfl (by decide) w37e
              refine aw_step (f1 := (146, [some (.ref 65), some (.int (i + Int32.ofInt 2)), some (.int x12), some (.int x23)], [])) (w1 := w37) rfl rfl ?_
              obtain ⟨x39, x39e⟩ : ∃ z, z = (i + Int32.ofInt 2) := ⟨_, rfl⟩
              have x39t : x39.toInt = i.toInt + (2) := by rw [x39e]; exact n_add (y := Int32.ofInt (2)) (by show _ ≤ _ + (2 : Int); omega) (by show _ + (2 : Int) ≤ _; omega)
              rw [← x39e]
              refine aw_step (f1 := (52, [some (.ref 65), some (.int x39), some (.int x12), some (.int x23)], [])) (w1 := w37) rfl rfl ?_
              exfalso; omega
          · --
            --
            refine aw_step (f1 := (119, [some (.ref 65), some (.int i), some (.int x12), some (.int x23)], [(.int i), (.ref 65)])) (w1 := w24) rfl rfl ?_
            refine s_i (pc1 := 120) (ls1 := [some (.ref 65), some (.int i), some (.int x12), some (.int x23)]) (st1 := [(.int i), (.ref 65)]) rfl rfl fun x40 e41 => ?_
            have e41t : x40.toInt = 2 := by rw [e41]; rfl
            refine s_dv (f := fun x y => x / y) 121 rfl rfl (by omega) fun x42 e43 => ?_
            have e43 : x42 = i / x40 := e43
            have e43t : x42.toInt = i.toInt / x40.toInt := by rw [e43]; exact n_div (by omega) (by omega)
            rw [e41t] at e43t
            refine aw_step (f1 := (126, [some (.ref 65), some (.int i), some (.int x12), some (.int x23)], [(.int x42), (.ref 65)])) (w1 := w24) rfl rfl ?_
            refine s_pi J25 129 rfl rfl rfl rfl rfl rfl rfl (by omega) (by omega) fun w44 J45 w44e => ?_
            have w44f := fv_st J25.1 (p := 65) (kf := 20) rfl (by decide) w44e
            refine aw_step (f1 := (130, [some (.ref 65), some (.int i), some (.int x12), some (.int x23)], [(.ref 65)])) (w1 := w44) rfl rfl ?_
            refine aw_step (f1 := (131, [some (.ref 65), some (.int i), some (.int x12), some (.int x23)], [(.int x23), (.ref 65)])) (w1 := w44) rfl rfl ?_
            refine s_if 138 134 rfl rfl rfl (fun (h46 : x23.toInt ≤ 0) => ?_) (fun (h46 : ¬ (x23.toInt ≤ 0)) => ?_)
            · --
              --
              refine s_i (pc1 := 140) (ls1 := [some (.ref 65), some (.int i), some (.int x12), some (.int x23)]) (st1 := [(.ref 65)]) rfl rfl fun x47 e48 => ?_
              have e48t : x47.toInt = -6 := by rw [e48]; rfl
              refine s_pi J45 143 rfl rfl rfl rfl rfl rfl rfl (by omega) (by omega) fun w49 J50 w49e => ?_
              have w49f := fv_st J45.1 (p := 65) (kf := 21) rfl (by decide) w49e
              refine aw_step (f1 := (146, [some (.ref 65), some (.int (i + Int32.ofInt 2)), some (.int x12), some (.int x23)], [])) (w1 := w49) rfl rfl ?_
              obtain ⟨x51, x51e⟩ : ∃ z, z = (i + Int32.ofInt 2) := ⟨_, rfl⟩
              have x51t : x51.toInt = i.toInt + (2) := by rw [x51e]; exact n_add (y := Int32.ofInt (2)) (by show _ ≤ _ + (2 : Int); omega) (by show _ + (2 : Int) ≤ _; omega)
              rw [← x51e]
              refine aw_step (f1 := (52, [some (.ref 65), some (.int x51), some (.int x12), some (.int x23)], [])) (w1 := w49) rfl rfl ?_
              exfalso; omega
            · --
              have zb := ab_any32 x23
              unfold ab_lo32 ab_hi32 at zb
              refine aw_step (f1 := (135, [some (.ref 65), some (.int i), some (.int x12), some (.int x23)], [(.int x23), (.ref 65)])) (w1 := w44) rfl rfl ?_
              refine aw_step (f1 := (140, [some (.ref 65), some (.int i), some (.int x12), some (.int x23)], [(.int x23), (.ref 65)])) (w1 := w44) rfl rfl ?_
              refine s_pi J45 143 rfl rfl rfl rfl rfl rfl rfl (by omega) (by omega) fun w52 J53 w52e => ?_
              have w52f := fv_st J45.1 (p := 65) (kf := 21) rfl (by decide) w52e
              refine aw_step (f1 := (146, [some (.ref 65), some (.int (i + Int32.ofInt 2)), some (.int x12), some (.int x23)], [])) (w1 := w52) rfl rfl ?_
              obtain ⟨x54, x54e⟩ : ∃ z, z = (i + Int32.ofInt 2) := ⟨_, rfl⟩
              have x54t : x54.toInt = i.toInt + (2) := by rw [x54e]; exact n_add (y := Int32.ofInt (2)) (by show _ ≤ _ + (2 : Int); omega) (by show _ + (2 : Int) ≤ _; omega)
              rw [← x54e]
              refine aw_step (f1 := (52, [some (.ref 65), some (.int x54), some (.int x12), some (.int x23)], [])) (w1 := w52) rfl rfl ?_
              have jm : JM w52 w24s := by
                have q := w24C
                exact ⟨by rw [fI_eq (w52f.2.2 22 (by decide)), fI_eq (w44f.2.2 22 (by decide))]; exact q.1, by rw [fI_eq (w52f.2.2 23 (by decide)), fI_eq (w44f.2.2 23 (by decide))]; exact q.2.1, by rw [fI_eq (w52f.2.2 24 (by decide)), fI_eq (w44f.2.2 24 (by decide))]; exact q.2.2.1, fun k hk => by rw [w52f.1.rIe (by decide), w44f.1.rIe (by decide)]; exact q.2.2.2 k hk⟩
              have e20 : fI w52 65 20 = x42.toInt := by rw [fI_eq (w52f.2.2 20 (by decide)), fI_of w44f.2.1]
              have e21 : fI w52 65 21 = x23.toInt := by rw [fI_of w52f.2.1]
              have ps := jS_pos w24S (by omega)
              rw [ps.2.2] at jm
              have je : jE V P (n / 2).toNat (fI w52 65 20) (fI w52 65 21) st := by
                rw [e20, e21, show x42.toInt = i.toInt / 2 by omega]
                exact F.bad (f := x21.toInt + 97) (d := x12.toInt) hw (by omega) (by omega) (by omega) (by omega) w24S
              refine aw_step (f1 := (53, [some (.ref 65), some (.int x54), some (.int x12), some (.int x23)], [(.int x54)])) (w1 := w52) rfl rfl ?_
              refine aw_step (f1 := (54, [some (.ref 65), some (.int x54), some (.int x12), some (.int x23)], [(.ref 65), (.int x54)])) (w1 := w52) rfl rfl ?_
              refine s_gi J53 57 rfl rfl rfl rfl rfl rfl fun zx1 zx1a zx1b zx1f => ?_
              have zx1v : zx1.toInt = fI w52 65 16 := by rw [← fI_of zx1f]
              refine s_ic 149 60 rfl rfl rfl (fun (zh2 : zx1.toInt ≤ x54.toInt) => ?_) (fun (zh2 : ¬ (zx1.toInt ≤ x54.toInt)) => ?_)
              · --
                refine aw_ret (v := none) rfl rfl ?_
                exact ⟨rfl, J53, st, jm, je⟩
              · --
                refine aw_step (f1 := (61, [some (.ref 65), some (.int x54), some (.int x12), some (.int x23)], [(.ref 65)])) (w1 := w52) rfl rfl ?_
                refine s_gi J53 64 rfl rfl rfl rfl rfl rfl fun zx3 zx3a zx3b zx3f => ?_
                have zx3v : zx3.toInt = fI w52 65 20 := by rw [← fI_of zx3f]
                refine s_if 149 67 rfl rfl rfl (fun (zh4 : 0 ≤ zx3.toInt) => ?_) (fun (zh4 : ¬ (0 ≤ zx3.toInt)) => ?_)
                · --
                  refine aw_ret (v := none) rfl rfl ?_
                  exact ⟨rfl, J53, st, jm, je⟩
                · --
                  exfalso; omega
        · --
          refine aw_step (f1 := (91, [some (.ref 65), some (.int i), some (.int x12), o3], [(.ref 65)])) (w1 := w) rfl rfl ?_
          refine aw_step (f1 := (92, [some (.ref 65), some (.int i), some (.int x12), o3], [(.int x12), (.ref 65)])) (w1 := w) rfl rfl ?_
          refine s_cv (z := 137) (p := 65) (as := [(.int x12)]) (st1 := []) J 95 rfl rfl rfl rfl rfl rfl rfl rfl (Nat.le_of_ble_eq_true rfl) (Nat.le_of_ble_eq_true rfl) (f_whyC R C F.2.2 x12 ⟨by omega, by omega⟩ J.1) ?_
          rintro _ w56 ⟨J57c, w56k, x55, rfl, w56s, w56C, w56S⟩
          have J57 := J.trans J57c
          refine ⟨am_len2 J J57c, ?_⟩
          show aw none _ 138 _ (95, [some (.ref 65), some (.int i), some (.int x12), o3], [(.int x55)]) w56
          refine aw_step (f1 := (112, [some (.ref 65), some (.int i), some (.int x12), o3], [(.int x55)])) (w1 := w56) rfl rfl ?_
          refine aw_step (f1 := (113, [some (.ref 65), some (.int i), some (.int x12), some (.int x55)], [])) (w1 := w56) rfl rfl ?_
          refine aw_step (f1 := (114, [some (.ref 65), some (.int i), some (.int x12), some (.int x55)], [(.ref 65)])) (w1 := w56) rfl rfl ?_
          refine aw_step (f1 := (115, [some (.ref 65), some (.int i), some (.int x12), some (.int x55)], [(.int x55), (.ref 65)])) (w1 := w56) rfl rfl ?_
          refine s_if 124 118 rfl rfl rfl (fun (h58 : x55.toInt ≤ 0) => ?_) (fun (h58 : ¬ (x55.toInt ≤ 0)) => ?_)
          · --
            --
            refine s_i (pc1 := 126) (ls1 := [some (.ref 65), some (.int i), some (.int x12), some (.int x55)]) (st1 := [(.ref 65)]) rfl rfl fun x59 e60 => ?_
            have e60t : x59.toInt = -6 := by rw [e60]; rfl
            refine s_pi J57 129 rfl rfl rfl rfl rfl rfl rfl (by omega) (by omega) fun w61 J62 w61e => ?_
            have w61f := fv_st J57.1 (p := 65) (kf := 20) rfl (by decide) w61e
            refine aw_step (f1 := (130, [some (.ref 65), some (.int i), some (.int x12), some (.int x55)], [(.ref 65)])) (w1 := w61) rfl rfl ?_
            refine aw_step (f1 := (131, [some (.ref 65), some (.int i), some (.int x12), some (.int x55)], [(.int x55), (.ref 65)])) (w1 := w61) rfl rfl ?_
            refine s_if 138 134 rfl rfl rfl (fun (h63 : x55.toInt ≤ 0) => ?_) (fun (h63 : ¬ (x55.toInt ≤ 0)) => ?_)
            · --
              --
              refine s_i (pc1 := 140) (ls1 := [some (.ref 65), some (.int i), some (.int x12), some (.int x55)]) (st1 := [(.ref 65)]) rfl rfl fun x64 e65 => ?_
              have e65t : x64.toInt = -6 := by rw [e65]; rfl
              refine s_pi J62 143 rfl rfl rfl rfl rfl rfl rfl (by omega) (by omega) fun w66 J67 w66e => ?_
              have w66f := fv_st J62.1 (p := 65) (kf := 21) rfl (by decide) w66e
              refine aw_step (f1 := (146, [some (.ref 65), some (.int (i + Int32.ofInt 2)), some (.int x12), some (.int x55)], [])) (w1 := w66) rfl rfl ?_
              obtain ⟨x68, x68e⟩ : ∃ z, z = (i + Int32.ofInt 2) := ⟨_, rfl⟩
              have x68t : x68.toInt = i.toInt + (2) := by rw [x68e]; exact n_add (y := Int32.ofInt (2)) (by show _ ≤ _ + (2 : Int); omega) (by show _ + (2 : Int) ≤ _; omega)
              rw [← x68e]
              refine aw_step (f1 := (52, [some (.ref 65), some (.int x68), some (.int x12), some (.int x55)], [])) (w1 := w66) rfl rfl ?_
              have jm : JM w66 w56s := by
                have q := w56C
                exact ⟨by rw [fI_eq (w66f.2.2 22 (by decide)), fI_eq (w61f.2.2 22 (by decide))]; exact q.1, by rw [fI_eq (w66f.2.2 23 (by decide)), fI_eq (w61f.2.2 23 (by decide))]; exact q.2.1, by rw [fI_eq (w66f.2.2 24 (by decide)), fI_eq (w61f.2.2 24 (by decide))]; exact q.2.2.1, fun k hk => by rw [w66f.1.rIe (by decide), w61f.1.rIe (by decide)]; exact q.2.2.2 k hk⟩
              have e20 : fI w66 65 20 = x59.toInt := by rw [fI_eq (w66f.2.2 20 (by decide)), fI_of w61f.2.1]
              have e21 : fI w66 65 21 = x64.toInt := by rw [fI_of w66f.2.1]
              exact ih w66 w56s x68 _ _ (by omega) (by omega) (by omega) J67 jm (by omega) (by omega) (by rw [show x68.toInt = i.toInt + 2 by omega]; exact F.st (f := 35) (d := x12.toInt) hw (by omega) hv (by omega) (by omega) (Classical.byContradiction fun q => by have := (jS_pos w56S q).1; omega) w56S)
            · --
              have zb := ab_any32 x55
              unfold ab_lo32 ab_hi32 at zb
              refine aw_step (f1 := (135, [some (.ref 65), some (.int i), some (.int x12), some (.int x55)], [(.int x55), (.ref 65)])) (w1 := w61) rfl rfl ?_
              refine aw_step (f1 := (140, [some (.ref 65), some (.int i), some (.int x12), some (.int x55)], [(.int x55), (.ref 65)])) (w1 := w61) rfl rfl ?_
              refine s_pi J62 143 rfl rfl rfl rfl rfl rfl rfl (by omega) (by omega) fun w69 J70 w69e => ?_
              have w69f := fv_st J62.1 (p := 65) (kf := 21) rfl (by decide) w69e
              refine aw_step (f1 := (146, [some (.ref 65), some (.int (i + Int32.ofInt 2)), some (.int x12), some (.int x55)], [])) (w1 := w69) rfl rfl ?_
              obtain ⟨x71, x71e⟩ : ∃ z, z = (i + Int32.ofInt 2) := ⟨_, rfl⟩
              have x71t : x71.toInt = i.toInt + (2) := by rw [x71e]; exact n_add (y := Int32.ofInt (2)) (by show _ ≤ _ + (2 : Int); omega) (by show _ + (2 : Int) ≤ _; omega)
              rw [← x71e]
              refine aw_step (f1 := (52, [some (.ref 65), some (.int x71), some (.int x12), some (.int x55)], [])) (w1 := w69) rfl rfl ?_
              exfalso; omega
          · --
            --
            refine aw_step (f1 := (119, [some (.ref 65), some (.int i), some (.int x12), some (.int x55)], [(.int i), (.ref 65)])) (w1 := w56) rfl rfl ?_
            refine s_i (pc1 := 120) (ls1 := [some (.ref 65), some (.int i), some (.int x12), some (.int x55)]) (st1 := [(.int i), (.ref 65)]) rfl rfl fun x72 e73 => ?_
            have e73t : x72.toInt = 2 := by rw [e73]; rfl
            refine s_dv (f := fun x y => x / y) 121 rfl rfl (by omega) fun x74 e75 => ?_
            have e75 : x74 = i / x72 := e75
            have e75t : x74.toInt = i.toInt / x72.toInt := by rw [e75]; exact n_div (by omega) (by omega)
            rw [e73t] at e75t
            refine aw_step (f1 := (126, [some (.ref 65), some (.int i), some (.int x12), some (.int x55)], [(.int x74), (.ref 65)])) (w1 := w56) rfl rfl ?_
            refine s_pi J57 129 rfl rfl rfl rfl rfl rfl rfl (by omega) (by omega) fun w76 J77 w76e => ?_
            have w76f := fv_st J57.1 (p := 65) (kf := 20) rfl (by decide) w76e
            refine aw_step (f1 := (130, [some (.ref 65), some (.int i), some (.int x12), some (.int x55)], [(.ref 65)])) (w1 := w76) rfl rfl ?_
            refine aw_step (f1 := (131, [some (.ref 65), some (.int i), some (.int x12), some (.int x55)], [(.int x55), (.ref 65)])) (w1 := w76) rfl rfl ?_
            refine s_if 138 134 rfl rfl rfl (fun (h78 : x55.toInt ≤ 0) => ?_) (fun (h78 : ¬ (x55.toInt ≤ 0)) => ?_)
            · --
              --
              refine s_i (pc1 := 140) (ls1 := [some (.ref 65), some (.int i), some (.int x12), some (.int x55)]) (st1 := [(.ref 65)]) rfl rfl fun x79 e80 => ?_
              have e80t : x79.toInt = -6 := by rw [e80]; rfl
              refine s_pi J77 143 rfl rfl rfl rfl rfl rfl rfl (by omega) (by omega) fun w81 J82 w81e => ?_
              have w81f := fv_st J77.1 (p := 65) (kf := 21) rfl (by decide) w81e
              refine aw_step (f1 := (146, [some (.ref 65), some (.int (i + Int32.ofInt 2)), some (.int x12), some (.int x55)], [])) (w1 := w81) rfl rfl ?_
              obtain ⟨x83, x83e⟩ : ∃ z, z = (i + Int32.ofInt 2) := ⟨_, rfl⟩
              have x83t : x83.toInt = i.toInt + (2) := by rw [x83e]; exact n_add (y := Int32.ofInt (2)) (by show _ ≤ _ + (2 : Int); omega) (by show _ + (2 : Int) ≤ _; omega)
              rw [← x83e]
              refine aw_step (f1 := (52, [some (.ref 65), some (.int x83), some (.int x12), some (.int x55)], [])) (w1 := w81) rfl rfl ?_
              exfalso; omega
            · --
              have zb := ab_any32 x55
              unfold ab_lo32 ab_hi32 at zb
              refine aw_step (f1 := (135, [some (.ref 65), some (.int i), some (.int x12), some (.int x55)], [(.int x55), (.ref 65)])) (w1 := w76) rfl rfl ?_
              refine aw_step (f1 := (140, [some (.ref 65), some (.int i), some (.int x12), some (.int x55)], [(.int x55), (.ref 65)])) (w1 := w76) rfl rfl ?_
              refine s_pi J77 143 rfl rfl rfl rfl rfl rfl rfl (by omega) (by omega) fun w84 J85 w84e => ?_
              have w84f := fv_st J77.1 (p := 65) (kf := 21) rfl (by decide) w84e
              refine aw_step (f1 := (146, [some (.ref 65), some (.int (i + Int32.ofInt 2)), some (.int x12), some (.int x55)], [])) (w1 := w84) rfl rfl ?_
              obtain ⟨x86, x86e⟩ : ∃ z, z = (i + Int32.ofInt 2) := ⟨_, rfl⟩
              have x86t : x86.toInt = i.toInt + (2) := by rw [x86e]; exact n_add (y := Int32.ofInt (2)) (by show _ ≤ _ + (2 : Int); omega) (by show _ + (2 : Int) ≤ _; omega)
              rw [← x86e]
              refine aw_step (f1 := (52, [some (.ref 65), some (.int x86), some (.int x12), some (.int x55)], [])) (w1 := w84) rfl rfl ?_
              have jm : JM w84 w56s := by
                have q := w56C
                exact ⟨by rw [fI_eq (w84f.2.2 22 (by decide)), fI_eq (w76f.2.2 22 (by decide))]; exact q.1, by rw [fI_eq (w84f.2.2 23 (by decide)), fI_eq (w76f.2.2 23 (by decide))]; exact q.2.1, by rw [fI_eq (w84f.2.2 24 (by decide)), fI_eq (w76f.2.2 24 (by decide))]; exact q.2.2.1, fun k hk => by rw [w84f.1.rIe (by decide), w76f.1.rIe (by decide)]; exact q.2.2.2 k hk⟩
              have e20 : fI w84 65 20 = x74.toInt := by rw [fI_eq (w84f.2.2 20 (by decide)), fI_of w76f.2.1]
              have e21 : fI w84 65 21 = x55.toInt := by rw [fI_of w84f.2.1]
              have ps := jS_pos w56S (by omega)
              rw [ps.2.2] at jm
              have je : jE V P (n / 2).toNat (fI w84 65 20) (fI w84 65 21) st := by
                rw [e20, e21, show x74.toInt = i.toInt / 2 by omega]
                exact F.bad (f := 35) (d := x12.toInt) hw (by omega) (by omega) (by omega) (by omega) w56S
              refine aw_step (f1 := (53, [some (.ref 65), some (.int x86), some (.int x12), some (.int x55)], [(.int x86)])) (w1 := w84) rfl rfl ?_
              refine aw_step (f1 := (54, [some (.ref 65), some (.int x86), some (.int x12), some (.int x55)], [(.ref 65), (.int x86)])) (w1 := w84) rfl rfl ?_
              refine s_gi J85 57 rfl rfl rfl rfl rfl rfl fun zx1 zx1a zx1b zx1f => ?_
              have zx1v : zx1.toInt = fI w84 65 16 := by rw [← fI_of zx1f]
              refine s_ic 149 60 rfl rfl rfl (fun (zh2 : zx1.toInt ≤ x86.toInt) => ?_) (fun (zh2 : ¬ (zx1.toInt ≤ x86.toInt)) => ?_)
              · --
                refine aw_ret (v := none) rfl rfl ?_
                exact ⟨rfl, J85, st, jm, je⟩
              · --
                refine aw_step (f1 := (61, [some (.ref 65), some (.int x86), some (.int x12), some (.int x55)], [(.ref 65)])) (w1 := w84) rfl rfl ?_
                refine s_gi J85 64 rfl rfl rfl rfl rfl rfl fun zx3 zx3a zx3b zx3f => ?_
                have zx3v : zx3.toInt = fI w84 65 20 := by rw [← fI_of zx3f]
                refine s_if 149 67 rfl rfl rfl (fun (zh4 : 0 ≤ zx3.toInt) => ?_) (fun (zh4 : ¬ (0 ≤ zx3.toInt)) => ?_)
                · --
                  refine aw_ret (v := none) rfl rfl ?_
                  exact ⟨rfl, J85, st, jm, je⟩
                · --
                  exfalso; omega
theorem f_gw0 {d : Nat} {w00 : am_W} {V P : Nat → Int} {n : Int} (R00 : RMs w00 V) (RP : RMp w00 n P) (hw : wlk P n) (hh : 0 ≤ V 2 ∧ V 2 < szV V) (I0 : ab_inv ab_TT ab_sets w00) : ∀ (m : Nat) (w : am_W) (i : Int32), (4 - i.toInt).toNat < m → 0 ≤ i.toInt → i.toInt ≤ 4 → ab_J ab_TT ab_sets ab_WR w00 w → (∀ j : Nat, (j : Int) < i.toInt → rI w 76 j = 0) → aw none (d + 4) 138 (fun r w1 => r = none ∧ ab_J ab_TT ab_sets ab_WR w00 w1 ∧ ∃ st, JM w1 st ∧ jE V P (n / 2).toNat (fI w1 65 20) (fI w1 65 21) st) (2, [some (.ref 65), some (.int i), none, none], []) w := by
  have szm := szM_in I0
  have hsz := R00.sz
  have nb := fI_in (p := 65) (k := 16) I0 rfl rfl
  have hn := RP.1
  intro m
  induction m with
  | zero => intro w i p; omega
  | succ m ih =>
    intro w i p1 p2 p3 J Z
    have r2 := (R00.wr I0 J).f2
    refine aw_step (f1 := (3, [some (.ref 65), some (.int i), none, none], [(.int i)])) (w1 := w) rfl rfl ?_
    refine s_i (pc1 := 4) (ls1 := [some (.ref 65), some (.int i), none, none]) (st1 := [(.int i)]) rfl rfl fun x1 e2 => ?_
    have e2t : x1.toInt = 4 := by rw [e2]; rfl
    refine s_ic 20 7 rfl rfl rfl (fun (h3 : x1.toInt ≤ i.toInt) => ?_) (fun (h3 : ¬ (x1.toInt ≤ i.toInt)) => ?_)
    · --
      refine aw_step (f1 := (21, [some (.ref 65), some (.int i), none, none], [(.ref 65)])) (w1 := w) rfl rfl ?_
      refine aw_step (f1 := (22, [some (.ref 65), some (.int i), none, none], [(.ref 65), (.ref 65)])) (w1 := w) rfl rfl ?_
      refine s_gi J 25 rfl rfl rfl rfl rfl rfl fun x4 x4a x4b x4f => ?_
      have x4v : x4.toInt = fI w 65 3 := by rw [← fI_of x4f]
      refine s_pi J 28 rfl rfl rfl rfl rfl rfl rfl (by omega) (by omega) fun w5 J6 w5e => ?_
      have w5f := fv_st J.1 (p := 65) (kf := 22) rfl (by decide) w5e
      refine aw_step (f1 := (29, [some (.ref 65), some (.int i), none, none], [(.ref 65)])) (w1 := w5) rfl rfl ?_
      refine s_i (pc1 := 30) (ls1 := [some (.ref 65), some (.int i), none, none]) (st1 := [(.ref 65)]) rfl rfl fun x7 e8 => ?_
      have e8t : x7.toInt = 0 := by rw [e8]; rfl
      refine s_pi J6 33 rfl rfl rfl rfl rfl rfl rfl (by omega) (by omega) fun w9 J10 w9e => ?_
      have w9f := fv_st J6.1 (p := 65) (kf := 23) rfl (by decide) w9e
      refine aw_step (f1 := (34, [some (.ref 65), some (.int i), none, none], [(.ref 65)])) (w1 := w9) rfl rfl ?_
      refine s_i (pc1 := 35) (ls1 := [some (.ref 65), some (.int i), none, none]) (st1 := [(.ref 65)]) rfl rfl fun x11 e12 => ?_
      have e12t : x11.toInt = 0 := by rw [e12]; rfl
      refine s_pi J10 38 rfl rfl rfl rfl rfl rfl rfl (by omega) (by omega) fun w13 J14 w13e => ?_
      have w13f := fv_st J10.1 (p := 65) (kf := 24) rfl (by decide) w13e
      refine aw_step (f1 := (39, [some (.ref 65), some (.int i), none, none], [(.ref 65)])) (w1 := w13) rfl rfl ?_
      refine s_i (pc1 := 41) (ls1 := [some (.ref 65), some (.int i), none, none]) (st1 := [(.ref 65)]) rfl rfl fun x15 e16 => ?_
      have e16t : x15.toInt = -6 := by rw [e16]; rfl
      refine s_pi J14 44 rfl rfl rfl rfl rfl rfl rfl (by omega) (by omega) fun w17 J18 w17e => ?_
      have w17f := fv_st J14.1 (p := 65) (kf := 20) rfl (by decide) w17e
      refine aw_step (f1 := (45, [some (.ref 65), some (.int i), none, none], [(.ref 65)])) (w1 := w17) rfl rfl ?_
      refine s_i (pc1 := 47) (ls1 := [some (.ref 65), some (.int i), none, none]) (st1 := [(.ref 65)]) rfl rfl fun x19 e20 => ?_
      have e20t : x19.toInt = -6 := by rw [e20]; rfl
      refine s_pi J18 50 rfl rfl rfl rfl rfl rfl rfl (by omega) (by omega) fun w21 J22 w21e => ?_
      have w21f := fv_st J18.1 (p := 65) (kf := 21) rfl (by decide) w21e
      refine s_i (pc1 := 51) (ls1 := [some (.ref 65), some (.int i), none, none]) (st1 := []) rfl rfl fun x23 e24 => ?_
      have e24t : x23.toInt = 0 := by rw [e24]; rfl
      refine aw_step (f1 := (52, [some (.ref 65), some (.int x23), none, none], [])) (w1 := w21) rfl rfl ?_
      have jm : JM w21 (j0 V) := by
        refine ⟨?_, ?_, ?_, fun b hb => ?_⟩
        · rw [fI_eq (w21f.2.2 22 (by decide)), fI_eq (w17f.2.2 22 (by decide)), fI_eq (w13f.2.2 22 (by decide)), fI_eq (w9f.2.2 22 (by decide)), fI_of w5f.2.1]; show _ = V 2; omega
        · rw [fI_eq (w21f.2.2 23 (by decide)), fI_eq (w17f.2.2 23 (by decide)), fI_eq (w13f.2.2 23 (by decide)), fI_of w9f.2.1]; show _ = (0 : Int); omega
        · rw [fI_eq (w21f.2.2 24 (by decide)), fI_eq (w17f.2.2 24 (by decide)), fI_of w13f.2.1]; show _ = (0 : Int); omega
        · rw [w21f.1.rIe (by decide), w17f.1.rIe (by decide), w13f.1.rIe (by decide), w9f.1.rIe (by decide), w5f.1.rIe (by decide), Z b (by omega)]; show _ = j0 V (3 + b); unfold j0; rw [if_neg (by omega)]
      exact f_gwL R00 RP hw I0 (n.toNat + 1) w21 (j0 V) x23 _ _ (by omega) (by omega) (by omega) J22 jm (by rw [fI_eq (w21f.2.2 20 (by decide)), fI_of w17f.2.1]; omega) (by rw [fI_of w21f.2.1]; omega) (by rw [show x23.toInt = 0 by omega]; exact ⟨⟨by omega, by omega, by omega⟩, rfl, j0_B hh⟩)
    · --
      refine aw_step (f1 := (8, [some (.ref 65), some (.int i), none, none], [(.ref 65)])) (w1 := w) rfl rfl ?_
      refine s_gr 76 J 11 rfl rfl rfl rfl rfl rfl ?_
      refine aw_step (f1 := (12, [some (.ref 65), some (.int i), none, none], [(.int i), (.ref 76)])) (w1 := w) rfl rfl ?_
      refine s_i (pc1 := 13) (ls1 := [some (.ref 65), some (.int i), none, none]) (st1 := [(.int i), (.ref 76)]) rfl rfl fun x25 e26 => ?_
      have e26t : x25.toInt = 0 := by rw [e26]; rfl
      refine s_is J 14 rfl rfl rfl rfl (by omega) (by omega) (by omega) (by omega) fun w27 J28 w27e => ?_
      have w27f := rI_st J.1 (p := 76) (j := i.toInt.toNat) rfl (by omega) w27e
      refine aw_step (f1 := (17, [some (.ref 65), some (.int (i + Int32.ofInt 1)), none, none], [])) (w1 := w27) rfl rfl ?_
      obtain ⟨x29, x29e⟩ : ∃ z, z = (i + Int32.ofInt 1) := ⟨_, rfl⟩
      have x29t : x29.toInt = i.toInt + (1) := by rw [x29e]; exact n_add (y := Int32.ofInt (1)) (by show _ ≤ _ + (1 : Int); omega) (by show _ + (1 : Int) ≤ _; omega)
      rw [← x29e]
      refine aw_step (f1 := (2, [some (.ref 65), some (.int x29), none, none], [])) (w1 := w27) rfl rfl ?_
      refine ih w27 x29 (by omega) (by omega) (by omega) J28 (fun j hj => ?_)
      by_cases q : j = i.toInt.toNat
      · rw [q, w27f.2.1]; omega
      · rw [w27f.2.2 j q]; exact Z j (by omega)
theorem f_goW {d : Nat} {w : am_W} {V P : Nat → Int} {n : Int} (R : RMs w V) (RP : RMp w n P) (hw : wlk P n) (hh : 0 ≤ V 2 ∧ V 2 < szV V) (I : ab_inv ab_TT ab_sets w) : aw none (d + 4) 138 (fun r w1 => r = none ∧ ab_J ab_TT ab_sets ab_WR w w1 ∧ ∃ st, JM w1 st ∧ jE V P (n / 2).toNat (fI w1 65 20) (fI w1 65 21) st) (0, am_entry 138 [.ref 65], []) w := by
  have J : ab_J ab_TT ab_sets ab_WR w w := ⟨I, ab_fr.rf⟩
  show aw none (d + 4) 138 _ (0, [some (.ref 65), none, none, none], []) w
  refine s_i (pc1 := 1) (ls1 := [some (.ref 65), none, none, none]) (st1 := []) rfl rfl fun x1 e2 => ?_
  have e2t : x1.toInt = 0 := by rw [e2]; rfl
  refine aw_step (f1 := (2, [some (.ref 65), some (.int x1), none, none], [])) (w1 := w) rfl rfl ?_
  exact f_gw0 R RP hw hh I 5 w x1 (by omega) (by omega) (by omega) J (fun j hj => by omega)
theorem f_judge {d : Nat} {w : am_W} {V P : Nat → Int} {n : Int} (R : RMs w V) (RP : RMp w n P) (hh : 0 ≤ V 2 ∧ V 2 < szV V) (k : Int32) (I : ab_inv ab_TT ab_sets w) : aw none (d + 5) 139 (fun r w1 => ab_J ab_TT ab_sets ab_WR w w1 ∧ ∃ z : Int32, r = some (.int z) ∧ judP V n P k.toInt z.toInt) (0, am_entry 139 [.ref 65, .int k], []) w := by
  have J : ab_J ab_TT ab_sets ab_WR w w := ⟨I, ab_fr.rf⟩
  have hn := RP.1
  have hP : rI w 73 = P := funext RP.2
  have nb := fI_in (p := 65) (k := 16) I rfl rfl
  show aw none (d + 5) 139 _ (0, [some (.ref 65), some (.int k)], []) w
  refine aw_step (f1 := (1, [some (.ref 65), some (.int k)], [(.int k)])) (w1 := w) rfl rfl ?_
  refine s_l (pc1 := 2) (ls1 := [some (.ref 65), some (.int k)]) (st1 := []) rfl rfl fun y1 e2 => ?_
  have e2t : y1.toInt = k.toInt := by rw [e2]; exact Int32.toInt_toInt64 k
  refine s_l (pc1 := 3) (ls1 := [some (.ref 65), some (.int k)]) (st1 := [(.long y1)]) rfl rfl fun y3 e4 => ?_
  have e4t : y3.toInt = 0 := by rw [e4]; rfl
  refine s_l (pc1 := 6) (ls1 := [some (.ref 65), some (.int k)]) (st1 := [(.long y3), (.long y1)]) rfl rfl fun y5 e6 => ?_
  have e6t : y5.toInt = 7 := by rw [e6]; rfl
  refine s_cs (z := 108) (as := [(.long y1), (.long y3), (.long y5)]) (st1 := []) 9 rfl rfl rfl rfl rfl rfl (Nat.le_of_ble_eq_true rfl) (Nat.le_of_ble_eq_true rfl) (Nat.le_of_ble_eq_true rfl) (q_in2 y1 y3 y5) ?_
  rintro _ _ ⟨rfl, x7, rfl, x7t⟩
  refine ⟨rfl, ?_⟩
  show aw none _ 139 _ (9, [some (.ref 65), some (.int k)], [(.int x7)]) w
  refine s_if 15 12 rfl rfl rfl (fun (h8 : ¬ x7.toInt = 0) => ?_) (fun (h8 : ¬ (¬ x7.toInt = 0)) => ?_)
  · --
    refine aw_step (f1 := (16, [some (.ref 65), some (.int k)], [(.ref 65)])) (w1 := w) rfl rfl ?_
    refine s_cv (z := 122) (p := 65) (as := []) (st1 := []) J 19 rfl rfl rfl rfl rfl rfl rfl rfl (Nat.le_of_ble_eq_true rfl) (Nat.le_of_ble_eq_true rfl) (q_faultOfWalk J.1) ?_
    rintro _ _ ⟨rfl, x9, rfl, x9t⟩
    refine ⟨rfl, ?_⟩
    show aw none _ 139 _ (19, [some (.ref 65), some (.int k)], [(.int x9)]) w
    rw [hn, hP] at x9t
    have fo := fltW_ok x9t (by omega)
    refine s_if 25 22 rfl rfl rfl (fun (h10 : x9.toInt < 0) => ?_) (fun (h10 : ¬ (x9.toInt < 0)) => ?_)
    · --
      have hwl : wlk P n := (fo.resolve_right (fun q => by omega)).2
      refine aw_step (f1 := (26, [some (.ref 65), some (.int k)], [(.ref 65)])) (w1 := w) rfl rfl ?_
      refine s_cv (z := 138) (p := 65) (as := []) (st1 := []) J 29 rfl rfl rfl rfl rfl rfl rfl rfl (Nat.le_of_ble_eq_true rfl) (Nat.le_of_ble_eq_true rfl) (f_goW R RP hwl hh J.1) ?_
      rintro _ w11 ⟨rfl, J12c, w11e⟩
      have J12 := J.trans J12c
      refine ⟨am_len2 J J12c, ?_⟩
      show aw none _ 139 _ (29, [some (.ref 65), some (.int k)], []) w11
      obtain ⟨st, jc, je⟩ := w11e
      have j1 := jc.1
      have j2 := jc.2.1
      have j3 := jc.2.2.1
      have jp : fI w11 65 20 = -6 ∨ 0 ≤ fI w11 65 20 := by
        rcases je with q | ⟨q, q1, q2, -⟩
        · exact Or.inl q.1
        · exact Or.inr (by omega)
      refine aw_step (f1 := (30, [some (.ref 65), some (.int k)], [(.int k)])) (w1 := w11) rfl rfl ?_
      refine s_i (pc1 := 31) (ls1 := [some (.ref 65), some (.int k)]) (st1 := [(.int k)]) rfl rfl fun x13 e14 => ?_
      have e14t : x13.toInt = 1 := by rw [e14]; rfl
      refine s_ic 44 34 rfl rfl rfl (fun (h15 : k.toInt ≤ x13.toInt) => ?_) (fun (h15 : ¬ (k.toInt ≤ x13.toInt)) => ?_)
      · --
        refine aw_step (f1 := (45, [some (.ref 65), some (.int k)], [(.int k)])) (w1 := w11) rfl rfl ?_
        rcases (show (k.toInt < 0 ∨ 3 < k.toInt) ∨ k.toInt = 0 ∨ k.toInt = 1 ∨ k.toInt = 2 ∨ k.toInt = 3 from by omega) with h16 | h16 | h16 | h16 | h16
        · refine s_swd 96 rfl rfl h16 ?_
          refine aw_step (f1 := (97, [some (.ref 65), some (.int k)], [(.ref 65)])) (w1 := w11) rfl rfl ?_
          refine s_gr 76 J12 100 rfl rfl rfl rfl rfl rfl ?_
          refine aw_step (f1 := (101, [some (.ref 65), some (.int k)], [(.int k), (.ref 76)])) (w1 := w11) rfl rfl ?_
          refine s_i (pc1 := 102) (ls1 := [some (.ref 65), some (.int k)]) (st1 := [(.int k), (.ref 76)]) rfl rfl fun x17 e18 => ?_
          have e18t : x17.toInt = 4 := by rw [e18]; rfl
          refine s_i (pc1 := 103) (ls1 := [some (.ref 65), some (.int k)]) (st1 := [(.ref 76)]) rfl rfl fun x19 e20 => ?_
          have e20 : x19 = k - x17 := e20
          have e20t : x19.toInt = k.toInt - x17.toInt := by rw [e20]; exact n_sub (by omega) (by omega)
          --
          refine s_ia J12 104 rfl rfl rfl rfl (by omega) (by omega) fun x21 x21a x21b x21f => ?_
          have x21w : x21.toInt = rI w11 76 x19.toInt.toNat := (rI_of x21f).symm
          refine aw_ret (v := some (.int x21)) rfl rfl ?_
          have je2 := je
          clear je
          exact ⟨J12, x21, rfl, Or.inr (Or.inr ⟨⟨by omega, by omega⟩, hwl, _, _, st, je2, Or.inr (Or.inr (Or.inr (Or.inr (Or.inr ⟨by omega, by omega, by rw [x21w, show x19.toInt.toNat = (k.toInt - 4).toNat by omega]; exact jc.2.2.2 _ (by omega)⟩))))⟩)⟩
        · refine s_swj (j := 0) 76 rfl (by omega) (by omega) (by omega) rfl rfl ?_
          refine aw_step (f1 := (77, [some (.ref 65), some (.int k)], [(.ref 65)])) (w1 := w11) rfl rfl ?_
          refine s_gi J12 80 rfl rfl rfl rfl rfl rfl fun x22 x22a x22b x22f => ?_
          have hp0 := fI_of x22f
          refine aw_ret (v := some (.int x22)) rfl rfl ?_
          have je2 := je
          clear je
          exact ⟨J12, x22, rfl, Or.inr (Or.inr ⟨⟨by omega, by omega⟩, hwl, _, _, st, je2, Or.inr (Or.inl ⟨by omega, by omega⟩)⟩)⟩
        · refine s_swj (j := 1) 81 rfl (by omega) (by omega) (by omega) rfl rfl ?_
          refine aw_step (f1 := (82, [some (.ref 65), some (.int k)], [(.ref 65)])) (w1 := w11) rfl rfl ?_
          refine s_gi J12 85 rfl rfl rfl rfl rfl rfl fun x23 x23a x23b x23f => ?_
          have hp1 := fI_of x23f
          refine aw_ret (v := some (.int x23)) rfl rfl ?_
          have je2 := je
          clear je
          exact ⟨J12, x23, rfl, Or.inr (Or.inr ⟨⟨by omega, by omega⟩, hwl, _, _, st, je2, Or.inr (Or.inr (Or.inl ⟨by omega, by omega⟩))⟩)⟩
        · refine s_swj (j := 2) 86 rfl (by omega) (by omega) (by omega) rfl rfl ?_
          refine aw_step (f1 := (87, [some (.ref 65), some (.int k)], [(.ref 65)])) (w1 := w11) rfl rfl ?_
          refine s_gi J12 90 rfl rfl rfl rfl rfl rfl fun x24 x24a x24b x24f => ?_
          have hp2 := fI_of x24f
          refine aw_ret (v := some (.int x24)) rfl rfl ?_
          have je2 := je
          clear je
          exact ⟨J12, x24, rfl, Or.inr (Or.inr ⟨⟨by omega, by omega⟩, hwl, _, _, st, je2, Or.inr (Or.inr (Or.inr (Or.inl ⟨by omega, by omega, by omega⟩)))⟩)⟩
        · refine s_swj (j := 3) 91 rfl (by omega) (by omega) (by omega) rfl rfl ?_
          refine aw_step (f1 := (92, [some (.ref 65), some (.int k)], [(.ref 65)])) (w1 := w11) rfl rfl ?_
          refine s_gi J12 95 rfl rfl rfl rfl rfl rfl fun x25 x25a x25b x25f => ?_
          have hp3 := fI_of x25f
          refine aw_ret (v := some (.int x25)) rfl rfl ?_
          have je2 := je
          clear je
          exact ⟨J12, x25, rfl, Or.inr (Or.inr ⟨⟨by omega, by omega⟩, hwl, _, _, st, je2, Or.inr (Or.inr (Or.inr (Or.inr (Or.inl ⟨by omega, by omega, by omega⟩))))⟩)⟩
      · --
        refine aw_step (f1 := (35, [some (.ref 65), some (.int k)], [(.ref 65)])) (w1 := w11) rfl rfl ?_
        refine s_gi J12 38 rfl rfl rfl rfl rfl rfl fun x26 x26a x26b x26f => ?_
        have hpt := fI_of x26f
        refine s_if 44 41 rfl rfl rfl (fun (h27 : x26.toInt < 0) => ?_) (fun (h27 : ¬ (x26.toInt < 0)) => ?_)
        · --
          refine aw_step (f1 := (45, [some (.ref 65), some (.int k)], [(.int k)])) (w1 := w11) rfl rfl ?_
          rcases (show (k.toInt < 0 ∨ 3 < k.toInt) ∨ k.toInt = 0 ∨ k.toInt = 1 ∨ k.toInt = 2 ∨ k.toInt = 3 from by omega) with h28 | h28 | h28 | h28 | h28
          · refine s_swd 96 rfl rfl h28 ?_
            refine aw_step (f1 := (97, [some (.ref 65), some (.int k)], [(.ref 65)])) (w1 := w11) rfl rfl ?_
            refine s_gr 76 J12 100 rfl rfl rfl rfl rfl rfl ?_
            refine aw_step (f1 := (101, [some (.ref 65), some (.int k)], [(.int k), (.ref 76)])) (w1 := w11) rfl rfl ?_
            refine s_i (pc1 := 102) (ls1 := [some (.ref 65), some (.int k)]) (st1 := [(.int k), (.ref 76)]) rfl rfl fun x29 e30 => ?_
            have e30t : x29.toInt = 4 := by rw [e30]; rfl
            refine s_i (pc1 := 103) (ls1 := [some (.ref 65), some (.int k)]) (st1 := [(.ref 76)]) rfl rfl fun x31 e32 => ?_
            have e32 : x31 = k - x29 := e32
            have e32t : x31.toInt = k.toInt - x29.toInt := by rw [e32]; exact n_sub (by omega) (by omega)
            --
            refine s_ia J12 104 rfl rfl rfl rfl (by omega) (by omega) fun x33 x33a x33b x33f => ?_
            have x33w : x33.toInt = rI w11 76 x31.toInt.toNat := (rI_of x33f).symm
            refine aw_ret (v := some (.int x33)) rfl rfl ?_
            have je2 := je
            clear je
            exact ⟨J12, x33, rfl, Or.inr (Or.inr ⟨⟨by omega, by omega⟩, hwl, _, _, st, je2, Or.inr (Or.inr (Or.inr (Or.inr (Or.inr ⟨by omega, by omega, by rw [x33w, show x31.toInt.toNat = (k.toInt - 4).toNat by omega]; exact jc.2.2.2 _ (by omega)⟩))))⟩)⟩
          · refine s_swj (j := 0) 76 rfl (by omega) (by omega) (by omega) rfl rfl ?_
            refine aw_step (f1 := (77, [some (.ref 65), some (.int k)], [(.ref 65)])) (w1 := w11) rfl rfl ?_
            refine s_gi J12 80 rfl rfl rfl rfl rfl rfl fun x34 x34a x34b x34f => ?_
            have hp0 := fI_of x34f
            refine aw_ret (v := some (.int x34)) rfl rfl ?_
            have je2 := je
            clear je
            exact ⟨J12, x34, rfl, Or.inr (Or.inr ⟨⟨by omega, by omega⟩, hwl, _, _, st, je2, Or.inr (Or.inl ⟨by omega, by omega⟩)⟩)⟩
          · refine s_swj (j := 1) 81 rfl (by omega) (by omega) (by omega) rfl rfl ?_
            refine aw_step (f1 := (82, [some (.ref 65), some (.int k)], [(.ref 65)])) (w1 := w11) rfl rfl ?_
            refine s_gi J12 85 rfl rfl rfl rfl rfl rfl fun x35 x35a x35b x35f => ?_
            have hp1 := fI_of x35f
            refine aw_ret (v := some (.int x35)) rfl rfl ?_
            have je2 := je
            clear je
            exact ⟨J12, x35, rfl, Or.inr (Or.inr ⟨⟨by omega, by omega⟩, hwl, _, _, st, je2, Or.inr (Or.inr (Or.inl ⟨by omega, by omega⟩))⟩)⟩
          · refine s_swj (j := 2) 86 rfl (by omega) (by omega) (by omega) rfl rfl ?_
            refine aw_step (f1 := (87, [some (.ref 65), some (.int k)], [(.ref 65)])) (w1 := w11) rfl rfl ?_
            refine s_gi J12 90 rfl rfl rfl rfl rfl rfl fun x36 x36a x36b x36f => ?_
            have hp2 := fI_of x36f
            refine aw_ret (v := some (.int x36)) rfl rfl ?_
            have je2 := je
            clear je
            exact ⟨J12, x36, rfl, Or.inr (Or.inr ⟨⟨by omega, by omega⟩, hwl, _, _, st, je2, Or.inr (Or.inr (Or.inr (Or.inl ⟨by omega, by omega, by omega⟩)))⟩)⟩
          · refine s_swj (j := 3) 91 rfl (by omega) (by omega) (by omega) rfl rfl ?_
            refine aw_step (f1 := (92, [some (.ref 65), some (.int k)], [(.ref 65)])) (w1 := w11) rfl rfl ?_
            refine s_gi J12 95 rfl rfl rfl rfl rfl rfl fun x37 x37a x37b x37f => ?_
            have hp3 := fI_of x37f
            refine aw_ret (v := some (.int x37)) rfl rfl ?_
            have je2 := je
            clear je
            exact ⟨J12, x37, rfl, Or.inr (Or.inr ⟨⟨by omega, by omega⟩, hwl, _, _, st, je2, Or.inr (Or.inr (Or.inr (Or.inr (Or.inl ⟨by omega, by omega, by omega⟩))))⟩)⟩
        · --
          refine s_i (pc1 := 43) (ls1 := [some (.ref 65), some (.int k)]) (st1 := []) rfl rfl fun x38 e39 => ?_
          have e39t : x38.toInt = -3 := by rw [e39]; rfl
          --
          refine aw_ret (v := some (.int x38)) rfl rfl ?_
          have je2 := je
          clear je
          exact ⟨J12, x38, rfl, Or.inr (Or.inr ⟨⟨by omega, by omega⟩, hwl, _, _, st, je2, Or.inl ⟨by omega, by omega, by omega⟩⟩)⟩
    · --
      refine s_i (pc1 := 24) (ls1 := [some (.ref 65), some (.int k)]) (st1 := []) rfl rfl fun x40 e41 => ?_
      have e41t : x40.toInt = -5 := by rw [e41]; rfl
      refine aw_ret (v := some (.int x40)) rfl rfl ?_
      first
        | exact ⟨J, x40, rfl, Or.inl ⟨by omega, by omega⟩⟩
        | exact ⟨J, x40, rfl, Or.inr (Or.inl ⟨⟨by omega, by omega⟩, by omega, (fo.resolve_left (fun q => by omega)).2⟩)⟩
  · --
    refine s_i (pc1 := 14) (ls1 := [some (.ref 65), some (.int k)]) (st1 := []) rfl rfl fun x42 e43 => ?_
    have e43t : x42.toInt = -2 := by rw [e43]; rfl
    refine aw_ret (v := some (.int x42)) rfl rfl ?_
    first
      | exact ⟨J, x42, rfl, Or.inl ⟨by omega, by omega⟩⟩
      | exact ⟨J, x42, rfl, Or.inr (Or.inl ⟨⟨by omega, by omega⟩, by omega, (fo.resolve_left (fun q => by omega)).2⟩)⟩
