/-! ===== passAll, image, restore ===== -/
theorem q_paC {d b : Nat} {mo : Int} {S : Nat → Int} {w00 wb : am_W} (hb : b ≤ 100) (hS : sOK S) : ∀ (m : Nat) (w : am_W) (i : Int32), (36 - i.toInt).toNat < m → 0 ≤ i.toInt → i.toInt ≤ 36 → ab_J ab_TT ab_sets ab_WR4 w00 w → pI b mo S wb w (40 + i.toInt.toNat) → aw none (d + 2) 182 (fun r w1 => r = none ∧ ab_J ab_TT ab_sets ab_WR4 w00 w1 ∧ pI b mo S wb w1 76) (221, [some (.ref 65), some (.int i)], []) w := by
  intro m
  induction m with
  | zero => intro w i p; omega
  | succ m ih =>
    intro w i p1 p2 p3 J P
    have Q0 : pI b mo S wb w (40 + i.toInt.toNat) := P
    have sa := hS.2.2.2.2.2.2.2.2.2 i.toInt.toNat
    refine aw_step (f1 := (222, [some (.ref 65), some (.int i)], [(.int i)])) (w1 := w) rfl rfl ?_
    refine s_i (pc1 := 224) (ls1 := [some (.ref 65), some (.int i)]) (st1 := [(.int i)]) rfl rfl fun x1 e2 => ?_
    have e2t : x1.toInt = 36 := by rw [e2]; rfl
    refine s_ic 249 227 rfl rfl rfl (fun (h3 : x1.toInt ≤ i.toInt) => ?_) (fun (h3 : ¬ (x1.toInt ≤ i.toInt)) => ?_)
    · --
      refine aw_ret (v := none) rfl rfl ?_
      exact ⟨rfl, J, by rw [show 76 = 40 + i.toInt.toNat by omega]; exact P⟩
    · --
      refine aw_step (f1 := (228, [some (.ref 65), some (.int i)], [(.ref 65)])) (w1 := w) rfl rfl ?_
      refine s_gr 66 J 231 rfl rfl rfl rfl rfl rfl ?_
      refine aw_step (f1 := (232, [some (.ref 65), some (.int i)], [(.int i), (.ref 66)])) (w1 := w) rfl rfl ?_
      refine aw_step (f1 := (233, [some (.ref 65), some (.int i)], [(.ref 65), (.int i), (.ref 66)])) (w1 := w) rfl rfl ?_
      refine aw_step (f1 := (234, [some (.ref 65), some (.int i)], [(.ref 65), (.ref 65), (.int i), (.ref 66)])) (w1 := w) rfl rfl ?_
      refine s_gr 66 J 237 rfl rfl rfl rfl rfl rfl ?_
      refine aw_step (f1 := (238, [some (.ref 65), some (.int i)], [(.int i), (.ref 66), (.ref 65), (.int i), (.ref 66)])) (w1 := w) rfl rfl ?_
      refine s_ia J 239 rfl rfl rfl rfl (by omega) (by omega) fun x4 x4a x4b x4f => ?_
      --
      refine s_cv (z := 181) (p := 65) (as := [(.int x4)]) (st1 := [(.int i), (.ref 66)]) J 242 rfl rfl rfl rfl rfl rfl rfl rfl (Nat.le_of_ble_eq_true rfl) (Nat.le_of_ble_eq_true rfl) (q_pass x4 (s := S (40 + i.toInt.toNat)) (Q0.pre (by omega) (by rw [fld_c (by omega)]; exact (rI_of x4f).symm)) ⟨by omega, by omega⟩ ⟨by have := Q0.1.1; omega, by have := Q0.1.1; omega⟩ J.1) ?_
      rintro _ w6 ⟨x5, rfl, J7c, x5t, x5p⟩
      have J7 := J.trans J7c
      refine ⟨am_len2 J J7c, ?_⟩
      show aw none _ 182 _ (242, [some (.ref 65), some (.int i)], [(.int x5), (.int i), (.ref 66)]) w6
      refine s_is J7 243 rfl rfl rfl rfl (by omega) (by omega) (by omega) (by omega) fun w8 J9 w8e => ?_
      have so66 := rI_st J7.1 (p := 66) (j := i.toInt.toNat) rfl (by omega) w8e
      have P1 : pI b mo S wb w8 (40 + i.toInt.toNat + 1) := Q0.go (by omega) x5p (by rw [fld_c (by omega), so66.2.1]; omega) (fun j hj => fld_row so66.1 (by decide) so66.2.2 (by omega) (by omega) (by omega)) (fun i => so66.1.rLie (by decide)) (so66.1.fv (by decide)) (so66.1.fv (by decide)) (so66.1.sub (by decide)) (so66.1.fv (by decide))
      refine aw_step (f1 := (246, [some (.ref 65), some (.int (i + Int32.ofInt 1))], [])) (w1 := w8) rfl rfl ?_
      obtain ⟨x10, x10e⟩ : ∃ z, z = (i + Int32.ofInt 1) := ⟨_, rfl⟩
      have x10t : x10.toInt = i.toInt + (1) := by rw [x10e]; exact n_add (y := Int32.ofInt (1)) (by show _ ≤ _ + (1 : Int); omega) (by show _ + (1 : Int) ≤ _; omega)
      rw [← x10e]
      refine aw_step (f1 := (221, [some (.ref 65), some (.int x10)], [])) (w1 := w8) rfl rfl ?_
      exact ih w8 x10 (by omega) (by omega) (by omega) J9 (by rw [show 40 + x10.toInt.toNat = 40 + i.toInt.toNat + 1 by omega]; exact P1)
theorem q_paB {d b : Nat} {mo : Int} {S : Nat → Int} {w00 wb : am_W} (hb : b ≤ 100) (hS : sOK S) : ∀ (m : Nat) (w : am_W) (i : Int32), (8 - i.toInt).toNat < m → 0 ≤ i.toInt → i.toInt ≤ 8 → ab_J ab_TT ab_sets ab_WR4 w00 w → pI b mo S wb w (24 + 2 * i.toInt.toNat) → aw none (d + 2) 182 (fun r w1 => r = none ∧ ab_J ab_TT ab_sets ab_WR4 w00 w1 ∧ pI b mo S wb w1 76) (175, [some (.ref 65), some (.int i)], []) w := by
  intro m
  induction m with
  | zero => intro w i p; omega
  | succ m ih =>
    intro w i p1 p2 p3 J P
    have Q0 : pI b mo S wb w (24 + 2 * i.toInt.toNat + 0) := P
    have sa := hS.2.2.2.2.2.2.2.2.1 i.toInt.toNat
    refine aw_step (f1 := (176, [some (.ref 65), some (.int i)], [(.int i)])) (w1 := w) rfl rfl ?_
    refine s_i (pc1 := 178) (ls1 := [some (.ref 65), some (.int i)]) (st1 := [(.int i)]) rfl rfl fun x1 e2 => ?_
    have e2t : x1.toInt = 8 := by rw [e2]; rfl
    refine s_ic 219 181 rfl rfl rfl (fun (h3 : x1.toInt ≤ i.toInt) => ?_) (fun (h3 : ¬ (x1.toInt ≤ i.toInt)) => ?_)
    · --
      refine s_i (pc1 := 220) (ls1 := [some (.ref 65), some (.int i)]) (st1 := []) rfl rfl fun x4 e5 => ?_
      have e5t : x4.toInt = 0 := by rw [e5]; rfl
      refine aw_step (f1 := (221, [some (.ref 65), some (.int x4)], [])) (w1 := w) rfl rfl ?_
      exact q_paC hb hS 37 w x4 (by omega) (by omega) (by omega) J (by rw [show 40 + x4.toInt.toNat = 24 + 2 * i.toInt.toNat by omega]; exact P)
    · --
      refine aw_step (f1 := (182, [some (.ref 65), some (.int i)], [(.ref 65)])) (w1 := w) rfl rfl ?_
      refine s_gr 71 J 185 rfl rfl rfl rfl rfl rfl ?_
      refine aw_step (f1 := (186, [some (.ref 65), some (.int i)], [(.int i), (.ref 71)])) (w1 := w) rfl rfl ?_
      refine aw_step (f1 := (187, [some (.ref 65), some (.int i)], [(.ref 65), (.int i), (.ref 71)])) (w1 := w) rfl rfl ?_
      refine aw_step (f1 := (188, [some (.ref 65), some (.int i)], [(.ref 65), (.ref 65), (.int i), (.ref 71)])) (w1 := w) rfl rfl ?_
      refine s_gr 71 J 191 rfl rfl rfl rfl rfl rfl ?_
      refine aw_step (f1 := (192, [some (.ref 65), some (.int i)], [(.int i), (.ref 71), (.ref 65), (.int i), (.ref 71)])) (w1 := w) rfl rfl ?_
      refine s_ia J 193 rfl rfl rfl rfl (by omega) (by omega) fun x6 x6a x6b x6f => ?_
      --
      refine s_cv (z := 181) (p := 65) (as := [(.int x6)]) (st1 := [(.int i), (.ref 71)]) J 196 rfl rfl rfl rfl rfl rfl rfl rfl (Nat.le_of_ble_eq_true rfl) (Nat.le_of_ble_eq_true rfl) (q_pass x6 (s := S (24 + 2 * i.toInt.toNat + 0)) (Q0.pre (by omega) (by rw [fld_b (by omega) (by decide)]; exact (rI_of x6f).symm)) ⟨by omega, by omega⟩ ⟨by have := Q0.1.1; omega, by have := Q0.1.1; omega⟩ J.1) ?_
      rintro _ w8 ⟨x7, rfl, J9c, x7t, x7p⟩
      have J9 := J.trans J9c
      refine ⟨am_len2 J J9c, ?_⟩
      show aw none _ 182 _ (196, [some (.ref 65), some (.int i)], [(.int x7), (.int i), (.ref 71)]) w8
      refine s_is J9 197 rfl rfl rfl rfl (by omega) (by omega) (by omega) (by omega) fun w10 J11 w10e => ?_
      have so71 := rI_st J9.1 (p := 71) (j := i.toInt.toNat) rfl (by omega) w10e
      have P1 : pI b mo S wb w10 (24 + 2 * i.toInt.toNat + 1) := Q0.go (by omega) x7p (by rw [fld_b (by omega) (by decide), so71.2.1]; omega) (fun j hj => fld_row so71.1 (by decide) so71.2.2 (by omega) (by omega) (by omega)) (fun i => so71.1.rLie (by decide)) (so71.1.fv (by decide)) (so71.1.fv (by decide)) (so71.1.sub (by decide)) (so71.1.fv (by decide))
      refine aw_step (f1 := (198, [some (.ref 65), some (.int i)], [(.ref 65)])) (w1 := w10) rfl rfl ?_
      refine s_gr 72 J11 201 rfl rfl rfl rfl rfl rfl ?_
      refine aw_step (f1 := (202, [some (.ref 65), some (.int i)], [(.int i), (.ref 72)])) (w1 := w10) rfl rfl ?_
      refine aw_step (f1 := (203, [some (.ref 65), some (.int i)], [(.ref 65), (.int i), (.ref 72)])) (w1 := w10) rfl rfl ?_
      refine aw_step (f1 := (204, [some (.ref 65), some (.int i)], [(.ref 65), (.ref 65), (.int i), (.ref 72)])) (w1 := w10) rfl rfl ?_
      refine s_gr 72 J11 207 rfl rfl rfl rfl rfl rfl ?_
      refine aw_step (f1 := (208, [some (.ref 65), some (.int i)], [(.int i), (.ref 72), (.ref 65), (.int i), (.ref 72)])) (w1 := w10) rfl rfl ?_
      refine s_ia J11 209 rfl rfl rfl rfl (by omega) (by omega) fun x12 x12a x12b x12f => ?_
      --
      refine s_cv (z := 181) (p := 65) (as := [(.int x12)]) (st1 := [(.int i), (.ref 72)]) J11 212 rfl rfl rfl rfl rfl rfl rfl rfl (Nat.le_of_ble_eq_true rfl) (Nat.le_of_ble_eq_true rfl) (q_pass x12 (s := S (24 + 2 * i.toInt.toNat + 1)) (P1.pre (by omega) (by rw [fld_b (by omega) (by decide)]; exact (rI_of x12f).symm)) ⟨by omega, by omega⟩ ⟨by have := P1.1.1; omega, by have := P1.1.1; omega⟩ J11.1) ?_
      rintro _ w14 ⟨x13, rfl, J15c, x13t, x13p⟩
      have J15 := J11.trans J15c
      refine ⟨am_len2 J11 J15c, ?_⟩
      show aw none _ 182 _ (212, [some (.ref 65), some (.int i)], [(.int x13), (.int i), (.ref 72)]) w14
      refine s_is J15 213 rfl rfl rfl rfl (by omega) (by omega) (by omega) (by omega) fun w16 J17 w16e => ?_
      have so72 := rI_st J15.1 (p := 72) (j := i.toInt.toNat) rfl (by omega) w16e
      have P2 : pI b mo S wb w16 (24 + 2 * i.toInt.toNat + 2) := P1.go (by omega) x13p (by rw [fld_b (by omega) (by decide), so72.2.1]; omega) (fun j hj => fld_row so72.1 (by decide) so72.2.2 (by omega) (by omega) (by omega)) (fun i => so72.1.rLie (by decide)) (so72.1.fv (by decide)) (so72.1.fv (by decide)) (so72.1.sub (by decide)) (so72.1.fv (by decide))
      refine aw_step (f1 := (216, [some (.ref 65), some (.int (i + Int32.ofInt 1))], [])) (w1 := w16) rfl rfl ?_
      obtain ⟨x18, x18e⟩ : ∃ z, z = (i + Int32.ofInt 1) := ⟨_, rfl⟩
      have x18t : x18.toInt = i.toInt + (1) := by rw [x18e]; exact n_add (y := Int32.ofInt (1)) (by show _ ≤ _ + (1 : Int); omega) (by show _ + (1 : Int) ≤ _; omega)
      rw [← x18e]
      refine aw_step (f1 := (175, [some (.ref 65), some (.int x18)], [])) (w1 := w16) rfl rfl ?_
      exact ih w16 x18 (by omega) (by omega) (by omega) J17 (by rw [show 24 + 2 * x18.toInt.toNat = 24 + 2 * i.toInt.toNat + 2 by omega]; exact P2)
theorem q_paA {d b : Nat} {mo : Int} {S : Nat → Int} {w00 wb : am_W} (hb : b ≤ 100) (hS : sOK S) : ∀ (m : Nat) (w : am_W) (i : Int32), (4 - i.toInt).toNat < m → 0 ≤ i.toInt → i.toInt ≤ 4 → ab_J ab_TT ab_sets ab_WR4 w00 w → pI b mo S wb w (8 + 4 * i.toInt.toNat) → aw none (d + 2) 182 (fun r w1 => r = none ∧ ab_J ab_TT ab_sets ab_WR4 w00 w1 ∧ pI b mo S wb w1 76) (98, [some (.ref 65), some (.int i)], []) w := by
  intro m
  induction m with
  | zero => intro w i p; omega
  | succ m ih =>
    intro w i p1 p2 p3 J P
    have Q0 : pI b mo S wb w (8 + 4 * i.toInt.toNat + 0) := P
    have sa := hS.2.2.2.2.2.2.2.1 i.toInt.toNat
    refine aw_step (f1 := (99, [some (.ref 65), some (.int i)], [(.int i)])) (w1 := w) rfl rfl ?_
    refine s_i (pc1 := 100) (ls1 := [some (.ref 65), some (.int i)]) (st1 := [(.int i)]) rfl rfl fun x1 e2 => ?_
    have e2t : x1.toInt = 4 := by rw [e2]; rfl
    refine s_ic 173 103 rfl rfl rfl (fun (h3 : x1.toInt ≤ i.toInt) => ?_) (fun (h3 : ¬ (x1.toInt ≤ i.toInt)) => ?_)
    · --
      refine s_i (pc1 := 174) (ls1 := [some (.ref 65), some (.int i)]) (st1 := []) rfl rfl fun x4 e5 => ?_
      have e5t : x4.toInt = 0 := by rw [e5]; rfl
      refine aw_step (f1 := (175, [some (.ref 65), some (.int x4)], [])) (w1 := w) rfl rfl ?_
      exact q_paB hb hS 9 w x4 (by omega) (by omega) (by omega) J (by rw [show 24 + 2 * x4.toInt.toNat = 8 + 4 * i.toInt.toNat by omega]; exact P)
    · --
      refine aw_step (f1 := (104, [some (.ref 65), some (.int i)], [(.ref 65)])) (w1 := w) rfl rfl ?_
      refine s_gr 67 J 107 rfl rfl rfl rfl rfl rfl ?_
      refine aw_step (f1 := (108, [some (.ref 65), some (.int i)], [(.int i), (.ref 67)])) (w1 := w) rfl rfl ?_
      refine aw_step (f1 := (109, [some (.ref 65), some (.int i)], [(.ref 65), (.int i), (.ref 67)])) (w1 := w) rfl rfl ?_
      refine aw_step (f1 := (110, [some (.ref 65), some (.int i)], [(.ref 65), (.ref 65), (.int i), (.ref 67)])) (w1 := w) rfl rfl ?_
      refine s_gr 67 J 113 rfl rfl rfl rfl rfl rfl ?_
      refine aw_step (f1 := (114, [some (.ref 65), some (.int i)], [(.int i), (.ref 67), (.ref 65), (.int i), (.ref 67)])) (w1 := w) rfl rfl ?_
      refine s_ia J 115 rfl rfl rfl rfl (by omega) (by omega) fun x6 x6a x6b x6f => ?_
      --
      refine s_cv (z := 181) (p := 65) (as := [(.int x6)]) (st1 := [(.int i), (.ref 67)]) J 118 rfl rfl rfl rfl rfl rfl rfl rfl (Nat.le_of_ble_eq_true rfl) (Nat.le_of_ble_eq_true rfl) (q_pass x6 (s := S (8 + 4 * i.toInt.toNat + 0)) (Q0.pre (by omega) (by rw [fld_a (by omega) (by decide)]; exact (rI_of x6f).symm)) ⟨by omega, by omega⟩ ⟨by have := Q0.1.1; omega, by have := Q0.1.1; omega⟩ J.1) ?_
      rintro _ w8 ⟨x7, rfl, J9c, x7t, x7p⟩
      have J9 := J.trans J9c
      refine ⟨am_len2 J J9c, ?_⟩
      show aw none _ 182 _ (118, [some (.ref 65), some (.int i)], [(.int x7), (.int i), (.ref 67)]) w8
      refine s_is J9 119 rfl rfl rfl rfl (by omega) (by omega) (by omega) (by omega) fun w10 J11 w10e => ?_
      have so67 := rI_st J9.1 (p := 67) (j := i.toInt.toNat) rfl (by omega) w10e
      have P1 : pI b mo S wb w10 (8 + 4 * i.toInt.toNat + 1) := Q0.go (by omega) x7p (by rw [fld_a (by omega) (by decide), so67.2.1]; omega) (fun j hj => fld_row so67.1 (by decide) so67.2.2 (by omega) (by omega) (by omega)) (fun i => so67.1.rLie (by decide)) (so67.1.fv (by decide)) (so67.1.fv (by decide)) (so67.1.sub (by decide)) (so67.1.fv (by decide))
      refine aw_step (f1 := (120, [some (.ref 65), some (.int i)], [(.ref 65)])) (w1 := w10) rfl rfl ?_
      refine s_gr 68 J11 123 rfl rfl rfl rfl rfl rfl ?_
      refine aw_step (f1 := (124, [some (.ref 65), some (.int i)], [(.int i), (.ref 68)])) (w1 := w10) rfl rfl ?_
      refine aw_step (f1 := (125, [some (.ref 65), some (.int i)], [(.ref 65), (.int i), (.ref 68)])) (w1 := w10) rfl rfl ?_
      refine aw_step (f1 := (126, [some (.ref 65), some (.int i)], [(.ref 65), (.ref 65), (.int i), (.ref 68)])) (w1 := w10) rfl rfl ?_
      refine s_gr 68 J11 129 rfl rfl rfl rfl rfl rfl ?_
      refine aw_step (f1 := (130, [some (.ref 65), some (.int i)], [(.int i), (.ref 68), (.ref 65), (.int i), (.ref 68)])) (w1 := w10) rfl rfl ?_
      refine s_ia J11 131 rfl rfl rfl rfl (by omega) (by omega) fun x12 x12a x12b x12f => ?_
      --
      refine s_cv (z := 181) (p := 65) (as := [(.int x12)]) (st1 := [(.int i), (.ref 68)]) J11 134 rfl rfl rfl rfl rfl rfl rfl rfl (Nat.le_of_ble_eq_true rfl) (Nat.le_of_ble_eq_true rfl) (q_pass x12 (s := S (8 + 4 * i.toInt.toNat + 1)) (P1.pre (by omega) (by rw [fld_a (by omega) (by decide)]; exact (rI_of x12f).symm)) ⟨by omega, by omega⟩ ⟨by have := P1.1.1; omega, by have := P1.1.1; omega⟩ J11.1) ?_
      rintro _ w14 ⟨x13, rfl, J15c, x13t, x13p⟩
      have J15 := J11.trans J15c
      refine ⟨am_len2 J11 J15c, ?_⟩
      show aw none _ 182 _ (134, [some (.ref 65), some (.int i)], [(.int x13), (.int i), (.ref 68)]) w14
      refine s_is J15 135 rfl rfl rfl rfl (by omega) (by omega) (by omega) (by omega) fun w16 J17 w16e => ?_
      have so68 := rI_st J15.1 (p := 68) (j := i.toInt.toNat) rfl (by omega) w16e
      have P2 : pI b mo S wb w16 (8 + 4 * i.toInt.toNat + 2) := P1.go (by omega) x13p (by rw [fld_a (by omega) (by decide), so68.2.1]; omega) (fun j hj => fld_row so68.1 (by decide) so68.2.2 (by omega) (by omega) (by omega)) (fun i => so68.1.rLie (by decide)) (so68.1.fv (by decide)) (so68.1.fv (by decide)) (so68.1.sub (by decide)) (so68.1.fv (by decide))
      refine aw_step (f1 := (136, [some (.ref 65), some (.int i)], [(.ref 65)])) (w1 := w16) rfl rfl ?_
      refine s_gr 69 J17 139 rfl rfl rfl rfl rfl rfl ?_
      refine aw_step (f1 := (140, [some (.ref 65), some (.int i)], [(.int i), (.ref 69)])) (w1 := w16) rfl rfl ?_
      refine aw_step (f1 := (141, [some (.ref 65), some (.int i)], [(.ref 65), (.int i), (.ref 69)])) (w1 := w16) rfl rfl ?_
      refine aw_step (f1 := (142, [some (.ref 65), some (.int i)], [(.ref 65), (.ref 65), (.int i), (.ref 69)])) (w1 := w16) rfl rfl ?_
      refine s_gr 69 J17 145 rfl rfl rfl rfl rfl rfl ?_
      refine aw_step (f1 := (146, [some (.ref 65), some (.int i)], [(.int i), (.ref 69), (.ref 65), (.int i), (.ref 69)])) (w1 := w16) rfl rfl ?_
      refine s_ia J17 147 rfl rfl rfl rfl (by omega) (by omega) fun x18 x18a x18b x18f => ?_
      --
      refine s_cv (z := 181) (p := 65) (as := [(.int x18)]) (st1 := [(.int i), (.ref 69)]) J17 150 rfl rfl rfl rfl rfl rfl rfl rfl (Nat.le_of_ble_eq_true rfl) (Nat.le_of_ble_eq_true rfl) (q_pass x18 (s := S (8 + 4 * i.toInt.toNat + 2)) (P2.pre (by omega) (by rw [fld_a (by omega) (by decide)]; exact (rI_of x18f).symm)) ⟨by omega, by omega⟩ ⟨by have := P2.1.1; omega, by have := P2.1.1; omega⟩ J17.1) ?_
      rintro _ w20 ⟨x19, rfl, J21c, x19t, x19p⟩
      have J21 := J17.trans J21c
      refine ⟨am_len2 J17 J21c, ?_⟩
      show aw none _ 182 _ (150, [some (.ref 65), some (.int i)], [(.int x19), (.int i), (.ref 69)]) w20
      refine s_is J21 151 rfl rfl rfl rfl (by omega) (by omega) (by omega) (by omega) fun w22 J23 w22e => ?_
      have so69 := rI_st J21.1 (p := 69) (j := i.toInt.toNat) rfl (by omega) w22e
      have P3 : pI b mo S wb w22 (8 + 4 * i.toInt.toNat + 3) := P2.go (by omega) x19p (by rw [fld_a (by omega) (by decide), so69.2.1]; omega) (fun j hj => fld_row so69.1 (by decide) so69.2.2 (by omega) (by omega) (by omega)) (fun i => so69.1.rLie (by decide)) (so69.1.fv (by decide)) (so69.1.fv (by decide)) (so69.1.sub (by decide)) (so69.1.fv (by decide))
      refine aw_step (f1 := (152, [some (.ref 65), some (.int i)], [(.ref 65)])) (w1 := w22) rfl rfl ?_
      refine s_gr 70 J23 155 rfl rfl rfl rfl rfl rfl ?_
      refine aw_step (f1 := (156, [some (.ref 65), some (.int i)], [(.int i), (.ref 70)])) (w1 := w22) rfl rfl ?_
      refine aw_step (f1 := (157, [some (.ref 65), some (.int i)], [(.ref 65), (.int i), (.ref 70)])) (w1 := w22) rfl rfl ?_
      refine aw_step (f1 := (158, [some (.ref 65), some (.int i)], [(.ref 65), (.ref 65), (.int i), (.ref 70)])) (w1 := w22) rfl rfl ?_
      refine s_gr 70 J23 161 rfl rfl rfl rfl rfl rfl ?_
      refine aw_step (f1 := (162, [some (.ref 65), some (.int i)], [(.int i), (.ref 70), (.ref 65), (.int i), (.ref 70)])) (w1 := w22) rfl rfl ?_
      refine s_ia J23 163 rfl rfl rfl rfl (by omega) (by omega) fun x24 x24a x24b x24f => ?_
      --
      refine s_cv (z := 181) (p := 65) (as := [(.int x24)]) (st1 := [(.int i), (.ref 70)]) J23 166 rfl rfl rfl rfl rfl rfl rfl rfl (Nat.le_of_ble_eq_true rfl) (Nat.le_of_ble_eq_true rfl) (q_pass x24 (s := S (8 + 4 * i.toInt.toNat + 3)) (P3.pre (by omega) (by rw [fld_a (by omega) (by decide)]; exact (rI_of x24f).symm)) ⟨by omega, by omega⟩ ⟨by have := P3.1.1; omega, by have := P3.1.1; omega⟩ J23.1) ?_
      rintro _ w26 ⟨x25, rfl, J27c, x25t, x25p⟩
      have J27 := J23.trans J27c
      refine ⟨am_len2 J23 J27c, ?_⟩
      show aw none _ 182 _ (166, [some (.ref 65), some (.int i)], [(.int x25), (.int i), (.ref 70)]) w26
      refine s_is J27 167 rfl rfl rfl rfl (by omega) (by omega) (by omega) (by omega) fun w28 J29 w28e => ?_
      have so70 := rI_st J27.1 (p := 70) (j := i.toInt.toNat) rfl (by omega) w28e
      have P4 : pI b mo S wb w28 (8 + 4 * i.toInt.toNat + 4) := P3.go (by omega) x25p (by rw [fld_a (by omega) (by decide), so70.2.1]; omega) (fun j hj => fld_row so70.1 (by decide) so70.2.2 (by omega) (by omega) (by omega)) (fun i => so70.1.rLie (by decide)) (so70.1.fv (by decide)) (so70.1.fv (by decide)) (so70.1.sub (by decide)) (so70.1.fv (by decide))
      refine aw_step (f1 := (170, [some (.ref 65), some (.int (i + Int32.ofInt 1))], [])) (w1 := w28) rfl rfl ?_
      obtain ⟨x30, x30e⟩ : ∃ z, z = (i + Int32.ofInt 1) := ⟨_, rfl⟩
      have x30t : x30.toInt = i.toInt + (1) := by rw [x30e]; exact n_add (y := Int32.ofInt (1)) (by show _ ≤ _ + (1 : Int); omega) (by show _ + (1 : Int) ≤ _; omega)
      rw [← x30e]
      refine aw_step (f1 := (98, [some (.ref 65), some (.int x30)], [])) (w1 := w28) rfl rfl ?_
      exact ih w28 x30 (by omega) (by omega) (by omega) J29 (by rw [show 8 + 4 * x30.toInt.toNat = 8 + 4 * i.toInt.toNat + 4 by omega]; exact P4)
theorem q_passAll {d b : Nat} {mo : Int} {S : Nat → Int} {wb w : am_W} (hb : b ≤ 100) (hS : sOK S) (P : pI b mo S wb w 0) (I : ab_inv ab_TT ab_sets w) : aw none (d + 2) 182 (fun r w1 => r = none ∧ ab_J ab_TT ab_sets ab_WR4 w w1 ∧ pI b mo S wb w1 76) (0, am_entry 182 [.ref 65], []) w := by
  have J : ab_J ab_TT ab_sets ab_WR4 w w := ⟨I, ab_fr.rf⟩
  obtain ⟨s0, s1, s2, s4, s5, s6, s7, -⟩ := id hS
  show aw none (d + 2) 182 _ (0, [some (.ref 65), none], []) w
  refine aw_step (f1 := (1, [some (.ref 65), none], [(.ref 65)])) (w1 := w) rfl rfl ?_
  refine aw_step (f1 := (2, [some (.ref 65), none], [(.ref 65), (.ref 65)])) (w1 := w) rfl rfl ?_
  refine aw_step (f1 := (3, [some (.ref 65), none], [(.ref 65), (.ref 65), (.ref 65)])) (w1 := w) rfl rfl ?_
  refine s_gi J 6 rfl rfl rfl rfl rfl rfl fun x1 x1a x1b x1f => ?_
  --
  refine s_cv (z := 181) (p := 65) (as := [(.int x1)]) (st1 := [(.ref 65)]) J 9 rfl rfl rfl rfl rfl rfl rfl rfl (Nat.le_of_ble_eq_true rfl) (Nat.le_of_ble_eq_true rfl) (q_pass x1 (s := S (0)) (P.pre (by omega) (show x1.toInt = fI w 65 0 from (fI_of x1f).symm)) ⟨by omega, by omega⟩ ⟨by have := P.1.1; omega, by have := P.1.1; omega⟩ J.1) ?_
  rintro _ w3 ⟨x2, rfl, J4c, x2t, x2p⟩
  have J4 := J.trans J4c
  refine ⟨am_len2 J J4c, ?_⟩
  show aw none _ 182 _ (9, [some (.ref 65), none], [(.int x2), (.ref 65)]) w3
  refine s_pi J4 12 rfl rfl rfl rfl rfl rfl rfl (by omega) (by omega) fun w5 J6 w5e => ?_
  have fs0 := fv_st J4.1 (p := 65) (kf := 0) rfl (by decide) w5e
  have P1 := P.go (by omega) x2p (show fI w5 65 0 = S 0 by rw [fI_of fs0.2.1]; omega) (fun j hj => fld_put (q := 0) (by decide) fs0.1 fs0.2.2 hj) (fun i => fs0.1.rLie (by decide)) (fs0.2.2 38 (by decide)) (fs0.2.2 39 (by decide)) (fs0.1.sub (by decide)) (fs0.2.2 16 (by decide))
  refine aw_step (f1 := (13, [some (.ref 65), none], [(.ref 65)])) (w1 := w5) rfl rfl ?_
  refine aw_step (f1 := (14, [some (.ref 65), none], [(.ref 65), (.ref 65)])) (w1 := w5) rfl rfl ?_
  refine aw_step (f1 := (15, [some (.ref 65), none], [(.ref 65), (.ref 65), (.ref 65)])) (w1 := w5) rfl rfl ?_
  refine s_gi J6 18 rfl rfl rfl rfl rfl rfl fun x7 x7a x7b x7f => ?_
  --
  refine s_cv (z := 181) (p := 65) (as := [(.int x7)]) (st1 := [(.ref 65)]) J6 21 rfl rfl rfl rfl rfl rfl rfl rfl (Nat.le_of_ble_eq_true rfl) (Nat.le_of_ble_eq_true rfl) (q_pass x7 (s := S (1)) (P1.pre (by omega) (show x7.toInt = fI w5 65 1 from (fI_of x7f).symm)) ⟨by omega, by omega⟩ ⟨by have := P1.1.1; omega, by have := P1.1.1; omega⟩ J6.1) ?_
  rintro _ w9 ⟨x8, rfl, J10c, x8t, x8p⟩
  have J10 := J6.trans J10c
  refine ⟨am_len2 J6 J10c, ?_⟩
  show aw none _ 182 _ (21, [some (.ref 65), none], [(.int x8), (.ref 65)]) w9
  refine s_pi J10 24 rfl rfl rfl rfl rfl rfl rfl (by omega) (by omega) fun w11 J12 w11e => ?_
  have fs1 := fv_st J10.1 (p := 65) (kf := 1) rfl (by decide) w11e
  have P2 := P1.go (by omega) x8p (show fI w11 65 1 = S 1 by rw [fI_of fs1.2.1]; omega) (fun j hj => fld_put (q := 1) (by decide) fs1.1 fs1.2.2 hj) (fun i => fs1.1.rLie (by decide)) (fs1.2.2 38 (by decide)) (fs1.2.2 39 (by decide)) (fs1.1.sub (by decide)) (fs1.2.2 16 (by decide))
  refine aw_step (f1 := (25, [some (.ref 65), none], [(.ref 65)])) (w1 := w11) rfl rfl ?_
  refine aw_step (f1 := (26, [some (.ref 65), none], [(.ref 65), (.ref 65)])) (w1 := w11) rfl rfl ?_
  refine aw_step (f1 := (27, [some (.ref 65), none], [(.ref 65), (.ref 65), (.ref 65)])) (w1 := w11) rfl rfl ?_
  refine s_gi J12 30 rfl rfl rfl rfl rfl rfl fun x13 x13a x13b x13f => ?_
  --
  refine s_cv (z := 181) (p := 65) (as := [(.int x13)]) (st1 := [(.ref 65)]) J12 33 rfl rfl rfl rfl rfl rfl rfl rfl (Nat.le_of_ble_eq_true rfl) (Nat.le_of_ble_eq_true rfl) (q_pass x13 (s := S (2)) (P2.pre (by omega) (show x13.toInt = fI w11 65 3 from (fI_of x13f).symm)) ⟨by omega, by omega⟩ ⟨by have := P2.1.1; omega, by have := P2.1.1; omega⟩ J12.1) ?_
  rintro _ w15 ⟨x14, rfl, J16c, x14t, x14p⟩
  have J16 := J12.trans J16c
  refine ⟨am_len2 J12 J16c, ?_⟩
  show aw none _ 182 _ (33, [some (.ref 65), none], [(.int x14), (.ref 65)]) w15
  refine s_pi J16 36 rfl rfl rfl rfl rfl rfl rfl (by omega) (by omega) fun w17 J18 w17e => ?_
  have fs2 := fv_st J16.1 (p := 65) (kf := 3) rfl (by decide) w17e
  have P3 := P2.go (by omega) x14p (show fI w17 65 3 = S 2 by rw [fI_of fs2.2.1]; omega) (fun j hj => fld_put (q := 2) (by decide) fs2.1 fs2.2.2 hj) (fun i => fs2.1.rLie (by decide)) (fs2.2.2 38 (by decide)) (fs2.2.2 39 (by decide)) (fs2.1.sub (by decide)) (fs2.2.2 16 (by decide))
  refine aw_step (f1 := (37, [some (.ref 65), none], [(.ref 65)])) (w1 := w17) rfl rfl ?_
  refine aw_step (f1 := (38, [some (.ref 65), none], [(.ref 65), (.ref 65)])) (w1 := w17) rfl rfl ?_
  refine aw_step (f1 := (39, [some (.ref 65), none], [(.ref 65), (.ref 65), (.ref 65)])) (w1 := w17) rfl rfl ?_
  refine s_gl J18 42 rfl rfl rfl rfl rfl rfl fun y19 y19a y19b y19f => ?_
  --
  refine s_cv (z := 180) (p := 65) (as := [(.long y19)]) (st1 := [(.ref 65)]) J18 45 rfl rfl rfl rfl rfl rfl rfl rfl (Nat.le_of_ble_eq_true rfl) (Nat.le_of_ble_eq_true rfl) (q_carry y19 (s := S (3)) (P3.pre (by omega) (show y19.toInt = fLi w17 65 4 from (fLi_of y19f).symm)) ⟨by have := P3.1.1; omega, by have := P3.1.1; omega⟩ J18.1) ?_
  rintro _ w21 ⟨y20, rfl, J22c, y20t, y20p⟩
  have J22 := J18.trans J22c
  refine ⟨am_len2 J18 J22c, ?_⟩
  show aw none _ 182 _ (45, [some (.ref 65), none], [(.long y20), (.ref 65)]) w21
  have y20r := ab_any64 y20
  unfold ab_lo64 ab_hi64 at y20r
  refine s_p J22 48 rfl rfl rfl rfl rfl rfl rfl rfl (Or.inr (Or.inl ⟨rfl, y20, rfl, by show (-9223372036854775808 : Int) ≤ _; first | omega | exact (ab_any64 _).1, by show _ ≤ (9223372036854775807 : Int); first | omega | exact (ab_any64 _).2⟩)) fun w23 J24 w23e => ?_
  have fs3 := fv_st J22.1 (p := 65) (kf := 4) rfl (by decide) w23e
  have P4 := P3.go (by omega) y20p (show fLi w23 65 4 = S 3 by rw [fLi_of fs3.2.1]; omega) (fun j hj => fld_put (q := 3) (by decide) fs3.1 fs3.2.2 hj) (fun i => fs3.1.rLie (by decide)) (fs3.2.2 38 (by decide)) (fs3.2.2 39 (by decide)) (fs3.1.sub (by decide)) (fs3.2.2 16 (by decide))
  refine aw_step (f1 := (49, [some (.ref 65), none], [(.ref 65)])) (w1 := w23) rfl rfl ?_
  refine aw_step (f1 := (50, [some (.ref 65), none], [(.ref 65), (.ref 65)])) (w1 := w23) rfl rfl ?_
  refine aw_step (f1 := (51, [some (.ref 65), none], [(.ref 65), (.ref 65), (.ref 65)])) (w1 := w23) rfl rfl ?_
  refine s_gi J24 54 rfl rfl rfl rfl rfl rfl fun x25 x25a x25b x25f => ?_
  --
  refine s_cv (z := 181) (p := 65) (as := [(.int x25)]) (st1 := [(.ref 65)]) J24 57 rfl rfl rfl rfl rfl rfl rfl rfl (Nat.le_of_ble_eq_true rfl) (Nat.le_of_ble_eq_true rfl) (q_pass x25 (s := S (4)) (P4.pre (by omega) (show x25.toInt = fI w23 65 7 from (fI_of x25f).symm)) ⟨by omega, by omega⟩ ⟨by have := P4.1.1; omega, by have := P4.1.1; omega⟩ J24.1) ?_
  rintro _ w27 ⟨x26, rfl, J28c, x26t, x26p⟩
  have J28 := J24.trans J28c
  refine ⟨am_len2 J24 J28c, ?_⟩
  show aw none _ 182 _ (57, [some (.ref 65), none], [(.int x26), (.ref 65)]) w27
  refine s_pi J28 60 rfl rfl rfl rfl rfl rfl rfl (by omega) (by omega) fun w29 J30 w29e => ?_
  have fs4 := fv_st J28.1 (p := 65) (kf := 7) rfl (by decide) w29e
  have P5 := P4.go (by omega) x26p (show fI w29 65 7 = S 4 by rw [fI_of fs4.2.1]; omega) (fun j hj => fld_put (q := 4) (by decide) fs4.1 fs4.2.2 hj) (fun i => fs4.1.rLie (by decide)) (fs4.2.2 38 (by decide)) (fs4.2.2 39 (by decide)) (fs4.1.sub (by decide)) (fs4.2.2 16 (by decide))
  refine aw_step (f1 := (61, [some (.ref 65), none], [(.ref 65)])) (w1 := w29) rfl rfl ?_
  refine aw_step (f1 := (62, [some (.ref 65), none], [(.ref 65), (.ref 65)])) (w1 := w29) rfl rfl ?_
  refine aw_step (f1 := (63, [some (.ref 65), none], [(.ref 65), (.ref 65), (.ref 65)])) (w1 := w29) rfl rfl ?_
  refine s_gi J30 66 rfl rfl rfl rfl rfl rfl fun x31 x31a x31b x31f => ?_
  --
  refine s_cv (z := 181) (p := 65) (as := [(.int x31)]) (st1 := [(.ref 65)]) J30 69 rfl rfl rfl rfl rfl rfl rfl rfl (Nat.le_of_ble_eq_true rfl) (Nat.le_of_ble_eq_true rfl) (q_pass x31 (s := S (5)) (P5.pre (by omega) (show x31.toInt = fI w29 65 8 from (fI_of x31f).symm)) ⟨by omega, by omega⟩ ⟨by have := P5.1.1; omega, by have := P5.1.1; omega⟩ J30.1) ?_
  rintro _ w33 ⟨x32, rfl, J34c, x32t, x32p⟩
  have J34 := J30.trans J34c
  refine ⟨am_len2 J30 J34c, ?_⟩
  show aw none _ 182 _ (69, [some (.ref 65), none], [(.int x32), (.ref 65)]) w33
  refine s_pi J34 72 rfl rfl rfl rfl rfl rfl rfl (by omega) (by omega) fun w35 J36 w35e => ?_
  have fs5 := fv_st J34.1 (p := 65) (kf := 8) rfl (by decide) w35e
  have P6 := P5.go (by omega) x32p (show fI w35 65 8 = S 5 by rw [fI_of fs5.2.1]; omega) (fun j hj => fld_put (q := 5) (by decide) fs5.1 fs5.2.2 hj) (fun i => fs5.1.rLie (by decide)) (fs5.2.2 38 (by decide)) (fs5.2.2 39 (by decide)) (fs5.1.sub (by decide)) (fs5.2.2 16 (by decide))
  refine aw_step (f1 := (73, [some (.ref 65), none], [(.ref 65)])) (w1 := w35) rfl rfl ?_
  refine aw_step (f1 := (74, [some (.ref 65), none], [(.ref 65), (.ref 65)])) (w1 := w35) rfl rfl ?_
  refine aw_step (f1 := (75, [some (.ref 65), none], [(.ref 65), (.ref 65), (.ref 65)])) (w1 := w35) rfl rfl ?_
  refine s_gi J36 78 rfl rfl rfl rfl rfl rfl fun x37 x37a x37b x37f => ?_
  --
  refine s_cv (z := 181) (p := 65) (as := [(.int x37)]) (st1 := [(.ref 65)]) J36 81 rfl rfl rfl rfl rfl rfl rfl rfl (Nat.le_of_ble_eq_true rfl) (Nat.le_of_ble_eq_true rfl) (q_pass x37 (s := S (6)) (P6.pre (by omega) (show x37.toInt = fI w35 65 9 from (fI_of x37f).symm)) ⟨by omega, by omega⟩ ⟨by have := P6.1.1; omega, by have := P6.1.1; omega⟩ J36.1) ?_
  rintro _ w39 ⟨x38, rfl, J40c, x38t, x38p⟩
  have J40 := J36.trans J40c
  refine ⟨am_len2 J36 J40c, ?_⟩
  show aw none _ 182 _ (81, [some (.ref 65), none], [(.int x38), (.ref 65)]) w39
  refine s_pi J40 84 rfl rfl rfl rfl rfl rfl rfl (by omega) (by omega) fun w41 J42 w41e => ?_
  have fs6 := fv_st J40.1 (p := 65) (kf := 9) rfl (by decide) w41e
  have P7 := P6.go (by omega) x38p (show fI w41 65 9 = S 6 by rw [fI_of fs6.2.1]; omega) (fun j hj => fld_put (q := 6) (by decide) fs6.1 fs6.2.2 hj) (fun i => fs6.1.rLie (by decide)) (fs6.2.2 38 (by decide)) (fs6.2.2 39 (by decide)) (fs6.1.sub (by decide)) (fs6.2.2 16 (by decide))
  refine aw_step (f1 := (85, [some (.ref 65), none], [(.ref 65)])) (w1 := w41) rfl rfl ?_
  refine aw_step (f1 := (86, [some (.ref 65), none], [(.ref 65), (.ref 65)])) (w1 := w41) rfl rfl ?_
  refine aw_step (f1 := (87, [some (.ref 65), none], [(.ref 65), (.ref 65), (.ref 65)])) (w1 := w41) rfl rfl ?_
  refine s_gi J42 90 rfl rfl rfl rfl rfl rfl fun x43 x43a x43b x43f => ?_
  --
  refine s_cv (z := 181) (p := 65) (as := [(.int x43)]) (st1 := [(.ref 65)]) J42 93 rfl rfl rfl rfl rfl rfl rfl rfl (Nat.le_of_ble_eq_true rfl) (Nat.le_of_ble_eq_true rfl) (q_pass x43 (s := S (7)) (P7.pre (by omega) (show x43.toInt = fI w41 65 14 from (fI_of x43f).symm)) ⟨by omega, by omega⟩ ⟨by have := P7.1.1; omega, by have := P7.1.1; omega⟩ J42.1) ?_
  rintro _ w45 ⟨x44, rfl, J46c, x44t, x44p⟩
  have J46 := J42.trans J46c
  refine ⟨am_len2 J42 J46c, ?_⟩
  show aw none _ 182 _ (93, [some (.ref 65), none], [(.int x44), (.ref 65)]) w45
  refine s_pi J46 96 rfl rfl rfl rfl rfl rfl rfl (by omega) (by omega) fun w47 J48 w47e => ?_
  have fs7 := fv_st J46.1 (p := 65) (kf := 14) rfl (by decide) w47e
  have P8 := P7.go (by omega) x44p (show fI w47 65 14 = S 7 by rw [fI_of fs7.2.1]; omega) (fun j hj => fld_put (q := 7) (by decide) fs7.1 fs7.2.2 hj) (fun i => fs7.1.rLie (by decide)) (fs7.2.2 38 (by decide)) (fs7.2.2 39 (by decide)) (fs7.1.sub (by decide)) (fs7.2.2 16 (by decide))
  refine s_i (pc1 := 97) (ls1 := [some (.ref 65), none]) (st1 := []) rfl rfl fun x49 e50 => ?_
  have e50t : x49.toInt = 0 := by rw [e50]; rfl
  refine aw_step (f1 := (98, [some (.ref 65), some (.int x49)], [])) (w1 := w47) rfl rfl ?_
  exact q_paA hb hS 5 w47 x49 (by omega) (by omega) (by omega) J48 (by rw [show 8 + 4 * x49.toInt.toNat = 7 + 1 by omega]; exact P8)
/-- what is kept can be taken back -/
noncomputable def kOK (w : am_W) : Prop := ∀ n : Nat, n < 2 → rI w 88 n = 1 → sOK (fun j => rLi w 87 (100 * n + j))
noncomputable def QK (w : am_W) (n : Int) : Option Value → am_W → Prop := fun r w1 => ab_J ab_TT ab_sets ab_WR3 w w1 ∧ kOK w1 ∧ ∃ b : Int32, r = some (.int b) ∧ imP n b.toInt (rI w 88) (rI w1 88)
noncomputable def QKr (w : am_W) (n : Int) : Option Value → am_W → Prop := fun r w1 => ab_J ab_TT ab_sets ab_WR4 w w1 ∧ kOK w1 ∧ ∃ b : Int32, r = some (.int b) ∧ rsP n b.toInt (rI w 88)
theorem sOK.of {S T : Nat → Int} (h : sOK S) (e : ∀ j, j < 76 → T j = S j) : sOK T := by
  unfold sOK
  rw [e 0 (by decide), e 1 (by decide), e 2 (by decide), e 4 (by decide), e 5 (by decide), e 6 (by decide), e 7 (by decide)]
  obtain ⟨a0, a1, a2, a3, a4, a5, a6, a7, a8, a9⟩ := h
  refine ⟨a0, a1, a2, a3, a4, a5, a6, fun i hi => ?_, fun i hi => ?_, fun i hi => ?_⟩
  · rw [e _ (by omega), e _ (by omega), e _ (by omega), e _ (by omega)]; exact a7 i hi
  · rw [e _ (by omega), e _ (by omega)]; exact a8 i hi
  · rw [e _ (by omega)]; exact a9 i hi
theorem q_passAll4 {d b : Nat} {mo : Int} {S : Nat → Int} {wb w : am_W} (hb : b ≤ 100) (hS : sOK S) (P : pI b mo S wb w 0) (I : ab_inv ab_TT ab_sets w) : aw none (d + 2) 182 (fun r w1 => r = none ∧ ab_J ab_TT ab_sets ab_WR4 w w1 ∧ pI b mo S wb w1 76 ∧ ∀ a, rI w1 88 a = rI w 88 a) (0, am_entry 182 [.ref 65], []) w := by
  refine (q_passAll hb hS P I).mono ?_
  rintro r w1 ⟨e, J, p⟩
  refine ⟨e, J, p, fun a => ?_⟩
  unfold rI
  rw [fr_row J.2 (by decide) (fun k h => by cases h)]
theorem q_passAll3 {d b : Nat} {mo : Int} {S : Nat → Int} {wb w : am_W} (hb : b ≤ 100) (hS : sOK S) (P : pI b mo S wb w 0) (I : ab_inv ab_TT ab_sets w) : aw none (d + 2) 182 (fun r w1 => r = none ∧ ab_J ab_TT ab_sets ab_WR3 w w1 ∧ pI b mo S wb w1 76 ∧ ∀ a, rI w1 88 a = rI w 88 a) (0, am_entry 182 [.ref 65], []) w := by
  refine (q_passAll hb hS P I).mono ?_
  rintro r w1 ⟨e, J, p⟩
  refine ⟨e, J34_of J, p, fun a => ?_⟩
  unfold rI
  rw [fr_row J.2 (by decide) (fun k h => by cases h)]
theorem q_image {d : Nat} {w : am_W} (n : Int32) (I : ab_inv ab_TT ab_sets w) (ko : kOK w) : aw none (d + 3) 183 (QK w n.toInt) (0, am_entry 183 [.ref 65, .int n], []) w := by
  have J : ab_J ab_TT ab_sets ab_WR3 w w := ⟨I, ab_fr.rf⟩
  show aw none (d + 3) 183 _ (0, [some (.ref 65), some (.int n)], []) w
  refine aw_step (f1 := (1, [some (.ref 65), some (.int n)], [(.int n)])) (w1 := w) rfl rfl ?_
  refine s_l (pc1 := 2) (ls1 := [some (.ref 65), some (.int n)]) (st1 := []) rfl rfl fun y1 e2 => ?_
  have e2t : y1.toInt = n.toInt := by rw [e2]; exact Int32.toInt_toInt64 n
  refine s_l (pc1 := 3) (ls1 := [some (.ref 65), some (.int n)]) (st1 := [(.long y1)]) rfl rfl fun y3 e4 => ?_
  have e4t : y3.toInt = 0 := by rw [e4]; rfl
  refine s_l (pc1 := 4) (ls1 := [some (.ref 65), some (.int n)]) (st1 := [(.long y3), (.long y1)]) rfl rfl fun y5 e6 => ?_
  have e6t : y5.toInt = 1 := by rw [e6]; rfl
  refine s_cs (z := 108) (as := [(.long y1), (.long y3), (.long y5)]) (st1 := []) 7 rfl rfl rfl rfl rfl rfl (Nat.le_of_ble_eq_true rfl) (Nat.le_of_ble_eq_true rfl) (Nat.le_of_ble_eq_true rfl) (q_in2 y1 y3 y5) ?_
  rintro _ _ ⟨rfl, x7, rfl, x7t⟩
  refine ⟨rfl, ?_⟩
  show aw none _ 183 _ (7, [some (.ref 65), some (.int n)], [(.int x7)]) w
  refine s_if 13 10 rfl rfl rfl (fun (h8 : ¬ x7.toInt = 0) => ?_) (fun (h8 : ¬ (¬ x7.toInt = 0)) => ?_)
  · --
    --
    refine aw_step (f1 := (14, [some (.ref 65), some (.int n)], [(.ref 65)])) (w1 := w) rfl rfl ?_
    refine s_i (pc1 := 16) (ls1 := [some (.ref 65), some (.int n)]) (st1 := [(.ref 65)]) rfl rfl fun x9 e10 => ?_
    have e10t : x9.toInt = 100 := by rw [e10]; rfl
    refine aw_step (f1 := (17, [some (.ref 65), some (.int n)], [(.int n), (.int x9), (.ref 65)])) (w1 := w) rfl rfl ?_
    refine s_i (pc1 := 18) (ls1 := [some (.ref 65), some (.int n)]) (st1 := [(.ref 65)]) rfl rfl fun x11 e12 => ?_
    have e12 : x11 = x9 * n := e12
    have e12t : x11.toInt = 100 * n.toInt := by rw [e12, n_mul (by rw [e10t]; omega) (by rw [e10t]; omega), e10t]
    refine s_pi J 21 rfl rfl rfl rfl rfl rfl rfl (by omega) (by omega) fun w13 J14 w13e => ?_
    --
    refine aw_step (f1 := (22, [some (.ref 65), some (.int n)], [(.ref 65)])) (w1 := w13) rfl rfl ?_
    refine s_i (pc1 := 23) (ls1 := [some (.ref 65), some (.int n)]) (st1 := [(.ref 65)]) rfl rfl fun x15 e16 => ?_
    have e16t : x15.toInt = 1 := by rw [e16]; rfl
    refine s_pz J14 26 rfl rfl rfl rfl rfl rfl rfl (by omega) (by omega) fun w17 J18 w17e => ?_
    have f1 := fv_st J.1 (p := 65) (kf := 38) rfl (by decide) w13e
    have f2 := fv_st J14.1 (p := 65) (kf := 39) rfl (by decide) w17e
    have O2 : only [65] w w17 := f1.1.trans f2.1
    have hv : ∀ k, k ≠ 38 → k ≠ 39 → am_fv w17 65 k = am_fv w 65 k := fun k a c => (f2.2.2 k c).trans (f1.2.2 k a)
    have fe : ∀ j, fld w17 j = fld w j := by
      intro j
      unfold fld
      by_cases a : j < 8
      · rw [if_pos a, if_pos a]
        have hk : ∀ a, a < 8 → fk a ≠ 38 ∧ fk a ≠ 39 := by decide
        by_cases c : j = 3
        · rw [if_pos c, if_pos c]; exact fLi_eq (hv 4 (by decide) (by decide))
        · rw [if_neg c, if_neg c]; exact fI_eq (hv _ (hk j a).1 (hk j a).2)
      · rw [if_neg a, if_neg a, O2.rIe (by simp only [List.mem_singleton]; omega), O2.rIe (by simp only [List.mem_singleton]; omega), O2.rIe (by decide)]
    obtain ⟨SS, hSS⟩ : ∃ SS, SS = fld w := ⟨_, rfl⟩
    have hS : sOK SS := by rw [hSS]; exact fld_ok I
    have hP : pI (100 * n.toInt.toNat) 1 SS w w17 0 := by
      refine ⟨⟨?_, ?_, fun j hj => by omega, fun j _ hj => Or.inl ⟨rfl, ?_⟩, fun i _ => O2.rLie (by decide)⟩, O2.sub (by decide), hv 16 (by decide) (by decide)⟩
      · rw [fI_eq (f2.2.2 38 (by decide)), fI_of f1.2.1]; omega
      · rw [fI_of f2.2.1]; omega
      · rw [fe, hSS]
    refine aw_step (f1 := (27, [some (.ref 65), some (.int n)], [(.ref 65)])) (w1 := w17) rfl rfl ?_
    refine s_cv (z := 182) (p := 65) (as := []) (st1 := []) J18 30 rfl rfl rfl rfl rfl rfl rfl rfl (Nat.le_of_ble_eq_true rfl) (Nat.le_of_ble_eq_true rfl) (q_passAll3 (b := 100 * n.toInt.toNat) (S := SS) (wb := w) (mo := 1) (by omega) hS hP J18.1) ?_
    rintro _ w19 ⟨rfl, J20c, w19p, w19z⟩
    have J20 := J18.trans J20c
    refine ⟨am_len2 J18 J20c, ?_⟩
    show aw none _ 183 _ (30, [some (.ref 65), some (.int n)], []) w19
    have r88 : ∀ a, rI w19 88 a = rI w 88 a := fun a => (w19z a).trans (O2.rIe (by decide))
    refine aw_step (f1 := (31, [some (.ref 65), some (.int n)], [(.ref 65)])) (w1 := w19) rfl rfl ?_
    refine s_gr 88 J20 34 rfl rfl rfl rfl rfl rfl ?_
    refine aw_step (f1 := (35, [some (.ref 65), some (.int n)], [(.int n), (.ref 88)])) (w1 := w19) rfl rfl ?_
    refine s_i (pc1 := 36) (ls1 := [some (.ref 65), some (.int n)]) (st1 := [(.int n), (.ref 88)]) rfl rfl fun x21 e22 => ?_
    have e22t : x21.toInt = 1 := by rw [e22]; rfl
    refine s_bs J20 37 rfl rfl rfl rfl (by omega) (by omega) (by omega) fun w23 J24 w23e => ?_
    refine s_i (pc1 := 38) (ls1 := [some (.ref 65), some (.int n)]) (st1 := []) rfl rfl fun x25 e26 => ?_
    have e26t : x25.toInt = 1 := by rw [e26]; rfl
    refine aw_ret (v := some (.int x25)) rfl rfl ?_
    have sz := rZ_st J20.1 (p := 88) (j := n.toInt.toNat) rfl (by omega) w23e
    have pp := w19p
    refine ⟨J24, fun a ha hk => ?_, x25, rfl, Or.inr ⟨by omega, ⟨by omega, by omega⟩, by rw [sz.2.1]; omega, fun j hj => by rw [sz.2.2 j hj, r88 j]⟩⟩
    by_cases e : a = n.toInt.toNat
    · rw [e]
      exact hS.of fun j hj => by
        show rLi w23 87 (100 * n.toInt.toNat + j) = SS j
        rw [sz.1.rLie (by decide)]
        exact (pp.1.2.2.1 j hj).1
    · rw [sz.2.2 a e] at hk
      have hkz : rI w19 88 a = rI w 88 a := r88 a
      refine (ko a ha (by rw [← hkz]; exact hk)).of fun j hj => ?_
      show rLi w23 87 (100 * a + j) = rLi w 87 (100 * a + j)
      rw [sz.1.rLie (by decide)]
      exact pp.1.2.2.2.2 _ (by omega)
  · --
    --
    refine s_i (pc1 := 12) (ls1 := [some (.ref 65), some (.int n)]) (st1 := []) rfl rfl fun x27 e28 => ?_
    have e28t : x27.toInt = -2 := by rw [e28]; rfl
    refine aw_ret (v := some (.int x27)) rfl rfl ?_
    exact ⟨J, ko, x27, rfl, Or.inl ⟨by omega, by omega, fun j => rfl⟩⟩
theorem q_restore {d : Nat} {w : am_W} (n : Int32) (I : ab_inv ab_TT ab_sets w) (ko : kOK w) : aw none (d + 3) 184 (QKr w n.toInt) (0, am_entry 184 [.ref 65, .int n], []) w := by
  have J : ab_J ab_TT ab_sets ab_WR4 w w := ⟨I, ab_fr.rf⟩
  show aw none (d + 3) 184 _ (0, [some (.ref 65), some (.int n)], []) w
  refine aw_step (f1 := (1, [some (.ref 65), some (.int n)], [(.int n)])) (w1 := w) rfl rfl ?_
  refine s_l (pc1 := 2) (ls1 := [some (.ref 65), some (.int n)]) (st1 := []) rfl rfl fun y1 e2 => ?_
  have e2t : y1.toInt = n.toInt := by rw [e2]; exact Int32.toInt_toInt64 n
  refine s_l (pc1 := 3) (ls1 := [some (.ref 65), some (.int n)]) (st1 := [(.long y1)]) rfl rfl fun y3 e4 => ?_
  have e4t : y3.toInt = 0 := by rw [e4]; rfl
  refine s_l (pc1 := 4) (ls1 := [some (.ref 65), some (.int n)]) (st1 := [(.long y3), (.long y1)]) rfl rfl fun y5 e6 => ?_
  have e6t : y5.toInt = 1 := by rw [e6]; rfl
  refine s_cs (z := 108) (as := [(.long y1), (.long y3), (.long y5)]) (st1 := []) 7 rfl rfl rfl rfl rfl rfl (Nat.le_of_ble_eq_true rfl) (Nat.le_of_ble_eq_true rfl) (Nat.le_of_ble_eq_true rfl) (q_in2 y1 y3 y5) ?_
  rintro _ _ ⟨rfl, x7, rfl, x7t⟩
  refine ⟨rfl, ?_⟩
  show aw none _ 184 _ (7, [some (.ref 65), some (.int n)], [(.int x7)]) w
  refine s_if 13 10 rfl rfl rfl (fun (h8 : ¬ x7.toInt = 0) => ?_) (fun (h8 : ¬ (¬ x7.toInt = 0)) => ?_)
  · --
    refine aw_step (f1 := (14, [some (.ref 65), some (.int n)], [(.ref 65)])) (w1 := w) rfl rfl ?_
    refine s_gr 88 J 17 rfl rfl rfl rfl rfl rfl ?_
    refine aw_step (f1 := (18, [some (.ref 65), some (.int n)], [(.int n), (.ref 88)])) (w1 := w) rfl rfl ?_
    refine s_ba J 19 rfl rfl rfl (by omega) (by omega) fun x9 x9a x9b x9f => ?_
    have hk88 := rI_of x9f
    refine s_if 25 22 rfl rfl rfl (fun (h10 : ¬ x9.toInt = 0) => ?_) (fun (h10 : ¬ (¬ x9.toInt = 0)) => ?_)
    · --
      --
      refine aw_step (f1 := (26, [some (.ref 65), some (.int n)], [(.ref 65)])) (w1 := w) rfl rfl ?_
      refine s_i (pc1 := 28) (ls1 := [some (.ref 65), some (.int n)]) (st1 := [(.ref 65)]) rfl rfl fun x11 e12 => ?_
      have e12t : x11.toInt = 100 := by rw [e12]; rfl
      refine aw_step (f1 := (29, [some (.ref 65), some (.int n)], [(.int n), (.int x11), (.ref 65)])) (w1 := w) rfl rfl ?_
      refine s_i (pc1 := 30) (ls1 := [some (.ref 65), some (.int n)]) (st1 := [(.ref 65)]) rfl rfl fun x13 e14 => ?_
      have e14 : x13 = x11 * n := e14
      have e14t : x13.toInt = 100 * n.toInt := by rw [e14, n_mul (by rw [e12t]; omega) (by rw [e12t]; omega), e12t]
      refine s_pi J 33 rfl rfl rfl rfl rfl rfl rfl (by omega) (by omega) fun w15 J16 w15e => ?_
      --
      refine aw_step (f1 := (34, [some (.ref 65), some (.int n)], [(.ref 65)])) (w1 := w15) rfl rfl ?_
      refine s_i (pc1 := 35) (ls1 := [some (.ref 65), some (.int n)]) (st1 := [(.ref 65)]) rfl rfl fun x17 e18 => ?_
      have e18t : x17.toInt = 0 := by rw [e18]; rfl
      refine s_pz J16 38 rfl rfl rfl rfl rfl rfl rfl (by omega) (by omega) fun w19 J20 w19e => ?_
      have f1 := fv_st J.1 (p := 65) (kf := 38) rfl (by decide) w15e
      have f2 := fv_st J16.1 (p := 65) (kf := 39) rfl (by decide) w19e
      have O2 : only [65] w w19 := f1.1.trans f2.1
      have hv : ∀ k, k ≠ 38 → k ≠ 39 → am_fv w19 65 k = am_fv w 65 k := fun k a c => (f2.2.2 k c).trans (f1.2.2 k a)
      have fe : ∀ j, fld w19 j = fld w j := by
        intro j
        unfold fld
        by_cases a : j < 8
        · rw [if_pos a, if_pos a]
          have hk : ∀ a, a < 8 → fk a ≠ 38 ∧ fk a ≠ 39 := by decide
          by_cases c : j = 3
          · rw [if_pos c, if_pos c]; exact fLi_eq (hv 4 (by decide) (by decide))
          · rw [if_neg c, if_neg c]; exact fI_eq (hv _ (hk j a).1 (hk j a).2)
        · rw [if_neg a, if_neg a, O2.rIe (by simp only [List.mem_singleton]; omega), O2.rIe (by simp only [List.mem_singleton]; omega), O2.rIe (by decide)]
      obtain ⟨SS, hSS⟩ : ∃ SS, SS = fun j => rLi w 87 (100 * n.toInt.toNat + j) := ⟨_, rfl⟩
      have hS : sOK SS := by rw [hSS]; exact ko n.toInt.toNat (by omega) (by rw [rI_of x9f]; omega)
      have hP : pI (100 * n.toInt.toNat) 0 SS w w19 0 := by
        refine ⟨⟨?_, ?_, fun j hj => by omega, fun j _ hj => Or.inr ⟨rfl, ?_⟩, fun i _ => O2.rLie (by decide)⟩, O2.sub (by decide), hv 16 (by decide) (by decide)⟩
        · rw [fI_eq (f2.2.2 38 (by decide)), fI_of f1.2.1]; omega
        · rw [fI_of f2.2.1]; omega
        · rw [O2.rLie (by decide), hSS]
      refine aw_step (f1 := (39, [some (.ref 65), some (.int n)], [(.ref 65)])) (w1 := w19) rfl rfl ?_
      refine s_cv (z := 182) (p := 65) (as := []) (st1 := []) J20 42 rfl rfl rfl rfl rfl rfl rfl rfl (Nat.le_of_ble_eq_true rfl) (Nat.le_of_ble_eq_true rfl) (q_passAll4 (b := 100 * n.toInt.toNat) (S := SS) (wb := w) (mo := 0) (by omega) hS hP J20.1) ?_
      rintro _ w21 ⟨rfl, J22c, w21p, w21z⟩
      have J22 := J20.trans J22c
      refine ⟨am_len2 J20 J22c, ?_⟩
      show aw none _ 184 _ (42, [some (.ref 65), some (.int n)], []) w21
      have r88 : ∀ a, rI w21 88 a = rI w 88 a := fun a => (w21z a).trans (O2.rIe (by decide))
      refine s_i (pc1 := 43) (ls1 := [some (.ref 65), some (.int n)]) (st1 := []) rfl rfl fun x23 e24 => ?_
      have e24t : x23.toInt = 1 := by rw [e24]; rfl
      refine aw_ret (v := some (.int x23)) rfl rfl ?_
      have pp := w21p
      refine ⟨J22, fun a ha hk => ?_, x23, rfl, Or.inr (Or.inr ⟨by omega, ⟨by omega, by omega⟩, by omega⟩)⟩
      have hkz : rI w21 88 a = rI w 88 a := r88 a
      refine (ko a ha (by rw [← hkz]; exact hk)).of fun j hj => ?_
      show rLi w21 87 (100 * a + j) = rLi w 87 (100 * a + j)
      by_cases e : a = n.toInt.toNat
      · rw [e, (pp.1.2.2.1 j hj).1, hSS]
      · exact pp.1.2.2.2.2 _ (by omega)
    · --
      --
      refine s_i (pc1 := 24) (ls1 := [some (.ref 65), some (.int n)]) (st1 := []) rfl rfl fun x25 e26 => ?_
      have e26t : x25.toInt = -3 := by rw [e26]; rfl
      refine aw_ret (v := some (.int x25)) rfl rfl ?_
      first
        | exact ⟨J, ko, x25, rfl, Or.inl ⟨by omega, by omega⟩⟩
        | exact ⟨J, ko, x25, rfl, Or.inr (Or.inl ⟨by omega, ⟨by omega, by omega⟩, by omega⟩)⟩
  · --
    --
    refine s_i (pc1 := 12) (ls1 := [some (.ref 65), some (.int n)]) (st1 := []) rfl rfl fun x27 e28 => ?_
    have e28t : x27.toInt = -2 := by rw [e28]; rfl
    refine aw_ret (v := some (.int x27)) rfl rfl ?_
    first
      | exact ⟨J, ko, x27, rfl, Or.inl ⟨by omega, by omega⟩⟩
      | exact ⟨J, ko, x27, rfl, Or.inr (Or.inl ⟨by omega, ⟨by omega, by omega⟩, by omega⟩)⟩
