/-! ===== errands ===== -/
theorem q_erD {d : Nat} {Q : Option Value → am_W → Prop} {w00 : am_W} {e : Int} (he5 : e ≤ 5) (bo ia al le nu : Int32) (s : Int64) (o11 : Option Value) (K : ∀ (w : am_W) (lf hd k : Int32), ab_J ab_TT ab_sets ab_WR w00 w → aw none (d + 2) 155 Q (148, [some (.ref 65), some (.int bo), some (.long s), none, some (.int ia), some (.int al), some (.int le), some (.int nu), some (.int lf), some (.int hd), some (.int k), o11], []) w) : ∀ (m : Nat) (w : am_W) (lf hd k : Int32), (k.toInt + 1).toNat < m → 0 ≤ lf.toInt → -1 ≤ k.toInt → k.toInt < e → ab_J ab_TT ab_sets ab_WR w00 w → fI w 65 28 = e → aw none (d + 2) 155 Q (100, [some (.ref 65), some (.int bo), some (.long s), none, some (.int ia), some (.int al), some (.int le), some (.int nu), some (.int lf), some (.int hd), some (.int k), o11], []) w := by
  intro m
  induction m with
  | zero => intro w lf hd k p; omega
  | succ m ih =>
    intro w lf hd k p1 ha hb hc J he
    refine aw_step (f1 := (102, [some (.ref 65), some (.int bo), some (.long s), none, some (.int ia), some (.int al), some (.int le), some (.int nu), some (.int lf), some (.int hd), some (.int k), o11], [(.int k)])) (w1 := w) rfl rfl ?_
    refine s_if 148 105 rfl rfl rfl (fun (h1 : k.toInt < 0) => ?_) (fun (h1 : ¬ (k.toInt < 0)) => ?_)
    · --
      exact K w _ _ _ J
    · --
      refine aw_step (f1 := (106, [some (.ref 65), some (.int bo), some (.long s), none, some (.int ia), some (.int al), some (.int le), some (.int nu), some (.int lf), some (.int hd), some (.int k), o11], [(.ref 65)])) (w1 := w) rfl rfl ?_
      refine s_gr 81 J 109 rfl rfl rfl rfl rfl rfl ?_
      refine aw_step (f1 := (111, [some (.ref 65), some (.int bo), some (.long s), none, some (.int ia), some (.int al), some (.int le), some (.int nu), some (.int lf), some (.int hd), some (.int k), o11], [(.int k), (.ref 81)])) (w1 := w) rfl rfl ?_
      refine aw_step (f1 := (113, [some (.ref 65), some (.int bo), some (.long s), none, some (.int ia), some (.int al), some (.int le), some (.int nu), some (.int lf), some (.int hd), some (.int k), o11], [(.int lf), (.int k), (.ref 81)])) (w1 := w) rfl rfl ?_
      refine aw_step (f1 := (114, [some (.ref 65), some (.int bo), some (.long s), none, some (.int ia), some (.int al), some (.int le), some (.int nu), some (.int lf), some (.int hd), some (.int k), o11], [(.ref 65), (.int lf), (.int k), (.ref 81)])) (w1 := w) rfl rfl ?_
      refine s_gi J 117 rfl rfl rfl rfl rfl rfl fun x2 x2a x2b x2f => ?_
      have qx2 := fI_of x2f
      refine s_dv (f := fun x y => x - x / y * y) 118 rfl rfl (by omega) fun x3 e4 => ?_
      have e4 : x3 = lf - lf / x2 * x2 := e4
      have e4t : x3.toInt = lf.toInt % x2.toInt := by rw [e4]; exact n_rem (by omega) (by omega)
      have hr1 := Int.emod_nonneg lf.toInt (show x2.toInt ≠ 0 by omega)
      have hr2 := Int.emod_lt_of_pos lf.toInt (show 0 < x2.toInt by omega)
      refine s_is J 119 rfl rfl rfl rfl (by omega) (by omega) (by omega) (by omega) fun w5 J6 w5e => ?_
      have so1 := (rI_st J.1 (p := 81) (j := k.toInt.toNat) rfl (by omega) w5e).1
      have sx := so1.fIe (p := 65) (k := 28) (by decide)
      refine aw_step (f1 := (121, [some (.ref 65), some (.int bo), some (.long s), none, some (.int ia), some (.int al), some (.int le), some (.int nu), some (.int lf), some (.int hd), some (.int k), o11], [(.int hd)])) (w1 := w5) rfl rfl ?_
      refine s_i (pc1 := 122) (ls1 := [some (.ref 65), some (.int bo), some (.long s), none, some (.int ia), some (.int al), some (.int le), some (.int nu), some (.int lf), some (.int hd), some (.int k), o11]) (st1 := [(.int hd)]) rfl rfl fun x7 e8 => ?_
      have e8t : x7.toInt = 1 := by rw [e8]; rfl
      refine aw_step (f1 := (123, [some (.ref 65), some (.int bo), some (.long s), none, some (.int ia), some (.int al), some (.int le), some (.int nu), some (.int lf), some (.int hd), some (.int k), o11], [(.ref 65), (.int x7), (.int hd)])) (w1 := w5) rfl rfl ?_
      refine s_gr 81 J6 126 rfl rfl rfl rfl rfl rfl ?_
      refine aw_step (f1 := (128, [some (.ref 65), some (.int bo), some (.long s), none, some (.int ia), some (.int al), some (.int le), some (.int nu), some (.int lf), some (.int hd), some (.int k), o11], [(.int k), (.ref 81), (.int x7), (.int hd)])) (w1 := w5) rfl rfl ?_
      refine s_ia J6 129 rfl rfl rfl rfl (by omega) (by omega) fun x9 x9a x9b x9f => ?_
      refine s_i (pc1 := 130) (ls1 := [some (.ref 65), some (.int bo), some (.long s), none, some (.int ia), some (.int al), some (.int le), some (.int nu), some (.int lf), some (.int hd), some (.int k), o11]) (st1 := [(.int hd)]) rfl rfl fun x10 e11 => ?_
      have e11 : x10 = x7 <<< (x9 &&& 31) := e11
      refine s_i (pc1 := 131) (ls1 := [some (.ref 65), some (.int bo), some (.long s), none, some (.int ia), some (.int al), some (.int le), some (.int nu), some (.int lf), some (.int hd), some (.int k), o11]) (st1 := []) rfl rfl fun x12 e13 => ?_
      have e13 : x12 = hd ||| x10 := e13
      refine aw_step (f1 := (133, [some (.ref 65), some (.int bo), some (.long s), none, some (.int ia), some (.int al), some (.int le), some (.int nu), some (.int lf), some (.int x12), some (.int k), o11], [])) (w1 := w5) rfl rfl ?_
      refine aw_step (f1 := (135, [some (.ref 65), some (.int bo), some (.long s), none, some (.int ia), some (.int al), some (.int le), some (.int nu), some (.int lf), some (.int x12), some (.int k), o11], [(.int lf)])) (w1 := w5) rfl rfl ?_
      refine aw_step (f1 := (136, [some (.ref 65), some (.int bo), some (.long s), none, some (.int ia), some (.int al), some (.int le), some (.int nu), some (.int lf), some (.int x12), some (.int k), o11], [(.ref 65), (.int lf)])) (w1 := w5) rfl rfl ?_
      refine s_gi J6 139 rfl rfl rfl rfl rfl rfl fun x14 x14a x14b x14f => ?_
      have qx14 := fI_of x14f
      have sx := so1.fIe (p := 65) (k := 28) (by decide)
      refine s_dv (f := fun x y => x / y) 140 rfl rfl (by omega) fun x15 e16 => ?_
      have e16 : x15 = lf / x14 := e16
      have e16t : x15.toInt = lf.toInt / x14.toInt := by rw [e16]; exact n_div (by omega) (by omega)
      have hd1 := Int.ediv_nonneg (show 0 ≤ lf.toInt by omega) (show 0 ≤ x14.toInt by omega)
      refine aw_step (f1 := (142, [some (.ref 65), some (.int bo), some (.long s), none, some (.int ia), some (.int al), some (.int le), some (.int nu), some (.int x15), some (.int x12), some (.int k), o11], [])) (w1 := w5) rfl rfl ?_
      refine aw_step (f1 := (145, [some (.ref 65), some (.int bo), some (.long s), none, some (.int ia), some (.int al), some (.int le), some (.int nu), some (.int x15), some (.int x12), some (.int (k + Int32.ofInt (-1))), o11], [])) (w1 := w5) rfl rfl ?_
      obtain ⟨x17, x17e⟩ : ∃ z, z = (k + Int32.ofInt (-1)) := ⟨_, rfl⟩
      have x17t : x17.toInt = k.toInt + (-1) := by rw [x17e]; exact n_add (y := Int32.ofInt (-1)) (by show _ ≤ _ + (-1 : Int); omega) (by show _ + (-1 : Int) ≤ _; omega)
      rw [← x17e]
      refine aw_step (f1 := (100, [some (.ref 65), some (.int bo), some (.long s), none, some (.int ia), some (.int al), some (.int le), some (.int nu), some (.int x15), some (.int x12), some (.int x17), o11], [])) (w1 := w5) rfl rfl ?_
      have so := rI_st J.1 (p := 81) (j := k.toInt.toNat) rfl (by omega) w5e
      exact ih w5 x15 x12 x17 (by omega) (by omega) (by omega) (by omega) J6 (by rw [so.1.fIe (by decide)]; exact he)
theorem q_erC {d : Nat} {Q : Option Value → am_W → Prop} {w00 : am_W} {e : Int} (he5 : e ≤ 5) (bo ia al le nu is : Int32) (s : Int64) (o8 o9 : Option Value) (K : ∀ (w : am_W) (k : Int32), ab_J ab_TT ab_sets ab_WR w00 w → aw none (d + 2) 155 Q (215, [some (.ref 65), some (.int bo), some (.long s), none, some (.int ia), some (.int al), some (.int le), some (.int nu), o8, o9, some (.int is), some (.int k)], []) w) : ∀ (m : Nat) (w : am_W) (k : Int32), (e - k.toInt).toNat < m → 0 ≤ k.toInt → k.toInt ≤ e → ab_J ab_TT ab_sets ab_WR w00 w → fI w 65 28 = e → aw none (d + 2) 155 Q (186, [some (.ref 65), some (.int bo), some (.long s), none, some (.int ia), some (.int al), some (.int le), some (.int nu), o8, o9, some (.int is), some (.int k)], []) w := by
  intro m
  induction m with
  | zero => intro w k p; omega
  | succ m ih =>
    intro w k p1 ha hb J he
    refine aw_step (f1 := (188, [some (.ref 65), some (.int bo), some (.long s), none, some (.int ia), some (.int al), some (.int le), some (.int nu), o8, o9, some (.int is), some (.int k)], [(.int k)])) (w1 := w) rfl rfl ?_
    refine aw_step (f1 := (189, [some (.ref 65), some (.int bo), some (.long s), none, some (.int ia), some (.int al), some (.int le), some (.int nu), o8, o9, some (.int is), some (.int k)], [(.ref 65), (.int k)])) (w1 := w) rfl rfl ?_
    refine s_gi J 192 rfl rfl rfl rfl rfl rfl fun x1 x1a x1b x1f => ?_
    have qx1 := fI_of x1f
    refine s_ic 215 195 rfl rfl rfl (fun (h2 : x1.toInt ≤ k.toInt) => ?_) (fun (h2 : ¬ (x1.toInt ≤ k.toInt)) => ?_)
    · --
      exact K w _ J
    · --
      refine aw_step (f1 := (196, [some (.ref 65), some (.int bo), some (.long s), none, some (.int ia), some (.int al), some (.int le), some (.int nu), o8, o9, some (.int is), some (.int k)], [(.ref 65)])) (w1 := w) rfl rfl ?_
      refine s_gr 82 J 199 rfl rfl rfl rfl rfl rfl ?_
      refine aw_step (f1 := (201, [some (.ref 65), some (.int bo), some (.long s), none, some (.int ia), some (.int al), some (.int le), some (.int nu), o8, o9, some (.int is), some (.int k)], [(.int k), (.ref 82)])) (w1 := w) rfl rfl ?_
      refine aw_step (f1 := (202, [some (.ref 65), some (.int bo), some (.long s), none, some (.int ia), some (.int al), some (.int le), some (.int nu), o8, o9, some (.int is), some (.int k)], [(.ref 65), (.int k), (.ref 82)])) (w1 := w) rfl rfl ?_
      refine s_gr 81 J 205 rfl rfl rfl rfl rfl rfl ?_
      refine aw_step (f1 := (207, [some (.ref 65), some (.int bo), some (.long s), none, some (.int ia), some (.int al), some (.int le), some (.int nu), o8, o9, some (.int is), some (.int k)], [(.int k), (.ref 81), (.int k), (.ref 82)])) (w1 := w) rfl rfl ?_
      refine s_ia J 208 rfl rfl rfl rfl (by omega) (by omega) fun x3 x3a x3b x3f => ?_
      refine s_is J 209 rfl rfl rfl rfl (by omega) (by omega) (by omega) (by omega) fun w4 J5 w4e => ?_
      refine aw_step (f1 := (212, [some (.ref 65), some (.int bo), some (.long s), none, some (.int ia), some (.int al), some (.int le), some (.int nu), o8, o9, some (.int is), some (.int (k + Int32.ofInt 1))], [])) (w1 := w4) rfl rfl ?_
      obtain ⟨x6, x6e⟩ : ∃ z, z = (k + Int32.ofInt 1) := ⟨_, rfl⟩
      have x6t : x6.toInt = k.toInt + (1) := by rw [x6e]; exact n_add (y := Int32.ofInt (1)) (by show _ ≤ _ + (1 : Int); omega) (by show _ + (1 : Int) ≤ _; omega)
      rw [← x6e]
      refine aw_step (f1 := (186, [some (.ref 65), some (.int bo), some (.long s), none, some (.int ia), some (.int al), some (.int le), some (.int nu), o8, o9, some (.int is), some (.int x6)], [])) (w1 := w4) rfl rfl ?_
      have so := rI_st J.1 (p := 82) (j := k.toInt.toNat) rfl (by omega) w4e
      exact ih w4 x6 (by omega) (by omega) (by omega) J5 (by rw [so.1.fIe (by decide)]; exact he)
theorem q_erN {d : Nat} {w00 : am_W} (bo ia al : Int32) (s : Int64) : ∀ (m : Nat) (w : am_W) (le nu : Int32) (o8 o9 o10 o11 : Option Value), (al.toInt - nu.toInt).toNat < m → 0 ≤ nu.toInt → ab_J ab_TT ab_sets ab_WR w00 w → aw none (d + 2) 155 (QS w00) (78, [some (.ref 65), some (.int bo), some (.long s), none, some (.int ia), some (.int al), some (.int le), some (.int nu), o8, o9, o10, o11], []) w := by
  intro m
  induction m with
  | zero => intro w le nu o8 o9 o10 o11 p; omega
  | succ m ih =>
    intro w le nu o8 o9 o10 o11 p1 ha J
    have ei := fI_in (p := 65) (k := 28) J.1 rfl rfl
    have ai := ab_any32 al
    unfold ab_hi32 at ai
    refine aw_step (f1 := (80, [some (.ref 65), some (.int bo), some (.long s), none, some (.int ia), some (.int al), some (.int le), some (.int nu), o8, o9, o10, o11], [(.int nu)])) (w1 := w) rfl rfl ?_
    refine aw_step (f1 := (82, [some (.ref 65), some (.int bo), some (.long s), none, some (.int ia), some (.int al), some (.int le), some (.int nu), o8, o9, o10, o11], [(.int al), (.int nu)])) (w1 := w) rfl rfl ?_
    refine s_ic 221 85 rfl rfl rfl (fun (h1 : al.toInt ≤ nu.toInt) => ?_) (fun (h1 : ¬ (al.toInt ≤ nu.toInt)) => ?_)
    · --
      refine aw_step (f1 := (223, [some (.ref 65), some (.int bo), some (.long s), none, some (.int ia), some (.int al), some (.int le), some (.int nu), o8, o9, o10, o11], [(.int le)])) (w1 := w) rfl rfl ?_
      refine s_i (pc1 := 225) (ls1 := [some (.ref 65), some (.int bo), some (.long s), none, some (.int ia), some (.int al), some (.int le), some (.int nu), o8, o9, o10, o11]) (st1 := [(.int le)]) rfl rfl fun x2 e3 => ?_
      have e3t : x2.toInt = 100000 := by rw [e3]; rfl
      refine s_ic 234 228 rfl rfl rfl (fun (h4 : le.toInt = x2.toInt) => ?_) (fun (h4 : ¬ (le.toInt = x2.toInt)) => ?_)
      · --
        refine aw_step (f1 := (236, [some (.ref 65), some (.int bo), some (.long s), none, some (.int ia), some (.int al), some (.int le), some (.int nu), o8, o9, o10, o11], [(.int le)])) (w1 := w) rfl rfl ?_
        refine s_i (pc1 := 238) (ls1 := [some (.ref 65), some (.int bo), some (.long s), none, some (.int ia), some (.int al), some (.int le), some (.int nu), o8, o9, o10, o11]) (st1 := [(.int le)]) rfl rfl fun x5 e6 => ?_
        have e6t : x5.toInt = 100000 := by rw [e6]; rfl
        refine s_ic 246 241 rfl rfl rfl (fun (h7 : ¬ le.toInt = x5.toInt) => ?_) (fun (h7 : ¬ (¬ le.toInt = x5.toInt)) => ?_)
        · --
          refine aw_step (f1 := (248, [some (.ref 65), some (.int bo), some (.long s), none, some (.int ia), some (.int al), some (.int le), some (.int nu), o8, o9, o10, o11], [(.int le)])) (w1 := w) rfl rfl ?_
          refine aw_ret (v := some (.int le)) rfl rfl ?_
          exact ⟨J, le, rfl⟩
        · --
          refine s_i (pc1 := 243) (ls1 := [some (.ref 65), some (.int bo), some (.long s), none, some (.int ia), some (.int al), some (.int le), some (.int nu), o8, o9, o10, o11]) (st1 := []) rfl rfl fun x8 e9 => ?_
          have e9t : x8.toInt = -6 := by rw [e9]; rfl
          refine aw_step (f1 := (248, [some (.ref 65), some (.int bo), some (.long s), none, some (.int ia), some (.int al), some (.int le), some (.int nu), o8, o9, o10, o11], [(.int x8)])) (w1 := w) rfl rfl ?_
          refine aw_ret (v := some (.int x8)) rfl rfl ?_
          exact ⟨J, x8, rfl⟩
      · --
        refine aw_step (f1 := (230, [some (.ref 65), some (.int bo), some (.long s), none, some (.int ia), some (.int al), some (.int le), some (.int nu), o8, o9, o10, o11], [(.int ia)])) (w1 := w) rfl rfl ?_
        refine s_i (pc1 := 231) (ls1 := [some (.ref 65), some (.int bo), some (.long s), none, some (.int ia), some (.int al), some (.int le), some (.int nu), o8, o9, o10, o11]) (st1 := [(.int ia)]) rfl rfl fun x10 e11 => ?_
        have e11t : x10.toInt = -1 := by rw [e11]; rfl
        refine s_ic 249 234 rfl rfl rfl (fun (h12 : ¬ ia.toInt = x10.toInt) => ?_) (fun (h12 : ¬ (¬ ia.toInt = x10.toInt)) => ?_)
        · --
          refine aw_step (f1 := (251, [some (.ref 65), some (.int bo), some (.long s), none, some (.int ia), some (.int al), some (.int le), some (.int nu), o8, o9, o10, o11], [(.int ia)])) (w1 := w) rfl rfl ?_
          refine s_l (pc1 := 252) (ls1 := [some (.ref 65), some (.int bo), some (.long s), none, some (.int ia), some (.int al), some (.int le), some (.int nu), o8, o9, o10, o11]) (st1 := []) rfl rfl fun y13 e14 => ?_
          have e14t : y13.toInt = ia.toInt := by rw [e14]; exact Int32.toInt_toInt64 ia
          refine s_l (pc1 := 253) (ls1 := [some (.ref 65), some (.int bo), some (.long s), none, some (.int ia), some (.int al), some (.int le), some (.int nu), o8, o9, o10, o11]) (st1 := [(.long y13)]) rfl rfl fun y15 e16 => ?_
          have e16t : y15.toInt = 0 := by rw [e16]; rfl
          refine aw_step (f1 := (254, [some (.ref 65), some (.int bo), some (.long s), none, some (.int ia), some (.int al), some (.int le), some (.int nu), o8, o9, o10, o11], [(.ref 65), (.long y15), (.long y13)])) (w1 := w) rfl rfl ?_
          refine s_gi J 257 rfl rfl rfl rfl rfl rfl fun x17 x17a x17b x17f => ?_
          have qx17 := fI_of x17f
          refine s_i (pc1 := 258) (ls1 := [some (.ref 65), some (.int bo), some (.long s), none, some (.int ia), some (.int al), some (.int le), some (.int nu), o8, o9, o10, o11]) (st1 := [(.int x17), (.long y15), (.long y13)]) rfl rfl fun x18 e19 => ?_
          have e19t : x18.toInt = 1 := by rw [e19]; rfl
          refine s_i (pc1 := 259) (ls1 := [some (.ref 65), some (.int bo), some (.long s), none, some (.int ia), some (.int al), some (.int le), some (.int nu), o8, o9, o10, o11]) (st1 := [(.long y15), (.long y13)]) rfl rfl fun x20 e21 => ?_
          have e21 : x20 = x17 - x18 := e21
          have e21t : x20.toInt = x17.toInt - x18.toInt := by rw [e21]; exact n_sub (by omega) (by omega)
          refine s_l (pc1 := 260) (ls1 := [some (.ref 65), some (.int bo), some (.long s), none, some (.int ia), some (.int al), some (.int le), some (.int nu), o8, o9, o10, o11]) (st1 := [(.long y15), (.long y13)]) rfl rfl fun y22 e23 => ?_
          have e23t : y22.toInt = x20.toInt := by rw [e23]; exact Int32.toInt_toInt64 x20
          refine s_cs (z := 108) (as := [(.long y13), (.long y15), (.long y22)]) (st1 := []) 263 rfl rfl rfl rfl rfl rfl (Nat.le_of_ble_eq_true rfl) (Nat.le_of_ble_eq_true rfl) (Nat.le_of_ble_eq_true rfl) (q_in2 y13 y15 y22) ?_
          rintro _ _ ⟨rfl, x24, rfl, x24t⟩
          refine ⟨rfl, ?_⟩
          show aw none _ 155 _ (263, [some (.ref 65), some (.int bo), some (.long s), none, some (.int ia), some (.int al), some (.int le), some (.int nu), o8, o9, o10, o11], [(.int x24)]) w
          refine s_if 281 266 rfl rfl rfl (fun (h25 : x24.toInt = 0) => ?_) (fun (h25 : ¬ (x24.toInt = 0)) => ?_)
          · --
            refine s_i (pc1 := 283) (ls1 := [some (.ref 65), some (.int bo), some (.long s), none, some (.int ia), some (.int al), some (.int le), some (.int nu), o8, o9, o10, o11]) (st1 := []) rfl rfl fun x26 e27 => ?_
            have e27t : x26.toInt = -6 := by rw [e27]; rfl
            refine aw_ret (v := some (.int x26)) rfl rfl ?_
            exact ⟨J, x26, rfl⟩
          · --
            refine aw_step (f1 := (267, [some (.ref 65), some (.int bo), some (.long s), none, some (.int ia), some (.int al), some (.int le), some (.int nu), o8, o9, o10, o11], [(.ref 65)])) (w1 := w) rfl rfl ?_
            refine s_gr 79 J 270 rfl rfl rfl rfl rfl rfl ?_
            refine aw_step (f1 := (271, [some (.ref 65), some (.int bo), some (.long s), none, some (.int ia), some (.int al), some (.int le), some (.int nu), o8, o9, o10, o11], [(.ref 65), (.ref 79)])) (w1 := w) rfl rfl ?_
            refine s_gr 82 J 274 rfl rfl rfl rfl rfl rfl ?_
            refine aw_step (f1 := (276, [some (.ref 65), some (.int bo), some (.long s), none, some (.int ia), some (.int al), some (.int le), some (.int nu), o8, o9, o10, o11], [(.int ia), (.ref 82), (.ref 79)])) (w1 := w) rfl rfl ?_
            refine s_ia J 277 rfl rfl rfl rfl (by omega) (by omega) fun x28 x28a x28b x28f => ?_
            refine s_ia J 278 rfl rfl rfl rfl (by omega) (by omega) fun x29 x29a x29b x29f => ?_
            refine aw_step (f1 := (283, [some (.ref 65), some (.int bo), some (.long s), none, some (.int ia), some (.int al), some (.int le), some (.int nu), o8, o9, o10, o11], [(.int x29)])) (w1 := w) rfl rfl ?_
            refine aw_ret (v := some (.int x29)) rfl rfl ?_
            exact ⟨J, x29, rfl⟩
        · --
          refine aw_step (f1 := (236, [some (.ref 65), some (.int bo), some (.long s), none, some (.int ia), some (.int al), some (.int le), some (.int nu), o8, o9, o10, o11], [(.int le)])) (w1 := w) rfl rfl ?_
          refine s_i (pc1 := 238) (ls1 := [some (.ref 65), some (.int bo), some (.long s), none, some (.int ia), some (.int al), some (.int le), some (.int nu), o8, o9, o10, o11]) (st1 := [(.int le)]) rfl rfl fun x30 e31 => ?_
          have e31t : x30.toInt = 100000 := by rw [e31]; rfl
          refine s_ic 246 241 rfl rfl rfl (fun (h32 : ¬ le.toInt = x30.toInt) => ?_) (fun (h32 : ¬ (¬ le.toInt = x30.toInt)) => ?_)
          · --
            refine aw_step (f1 := (248, [some (.ref 65), some (.int bo), some (.long s), none, some (.int ia), some (.int al), some (.int le), some (.int nu), o8, o9, o10, o11], [(.int le)])) (w1 := w) rfl rfl ?_
            refine aw_ret (v := some (.int le)) rfl rfl ?_
            exact ⟨J, le, rfl⟩
          · --
            refine s_i (pc1 := 243) (ls1 := [some (.ref 65), some (.int bo), some (.long s), none, some (.int ia), some (.int al), some (.int le), some (.int nu), o8, o9, o10, o11]) (st1 := []) rfl rfl fun x33 e34 => ?_
            have e34t : x33.toInt = -6 := by rw [e34]; rfl
            refine aw_step (f1 := (248, [some (.ref 65), some (.int bo), some (.long s), none, some (.int ia), some (.int al), some (.int le), some (.int nu), o8, o9, o10, o11], [(.int x33)])) (w1 := w) rfl rfl ?_
            refine aw_ret (v := some (.int x33)) rfl rfl ?_
            exact ⟨J, x33, rfl⟩
    · --
      refine aw_step (f1 := (87, [some (.ref 65), some (.int bo), some (.long s), none, some (.int ia), some (.int al), some (.int le), some (.int nu), o8, o9, o10, o11], [(.int nu)])) (w1 := w) rfl rfl ?_
      refine aw_step (f1 := (89, [some (.ref 65), some (.int bo), some (.long s), none, some (.int ia), some (.int al), some (.int le), some (.int nu), some (.int nu), o9, o10, o11], [])) (w1 := w) rfl rfl ?_
      refine s_i (pc1 := 90) (ls1 := [some (.ref 65), some (.int bo), some (.long s), none, some (.int ia), some (.int al), some (.int le), some (.int nu), some (.int nu), o9, o10, o11]) (st1 := []) rfl rfl fun x35 e36 => ?_
      have e36t : x35.toInt = 0 := by rw [e36]; rfl
      refine aw_step (f1 := (92, [some (.ref 65), some (.int bo), some (.long s), none, some (.int ia), some (.int al), some (.int le), some (.int nu), some (.int nu), some (.int x35), o10, o11], [])) (w1 := w) rfl rfl ?_
      refine aw_step (f1 := (93, [some (.ref 65), some (.int bo), some (.long s), none, some (.int ia), some (.int al), some (.int le), some (.int nu), some (.int nu), some (.int x35), o10, o11], [(.ref 65)])) (w1 := w) rfl rfl ?_
      refine s_gi J 96 rfl rfl rfl rfl rfl rfl fun x37 x37a x37b x37f => ?_
      have qx37 := fI_of x37f
      refine s_i (pc1 := 97) (ls1 := [some (.ref 65), some (.int bo), some (.long s), none, some (.int ia), some (.int al), some (.int le), some (.int nu), some (.int nu), some (.int x35), o10, o11]) (st1 := [(.int x37)]) rfl rfl fun x38 e39 => ?_
      have e39t : x38.toInt = 1 := by rw [e39]; rfl
      refine s_i (pc1 := 98) (ls1 := [some (.ref 65), some (.int bo), some (.long s), none, some (.int ia), some (.int al), some (.int le), some (.int nu), some (.int nu), some (.int x35), o10, o11]) (st1 := []) rfl rfl fun x40 e41 => ?_
      have e41 : x40 = x37 - x38 := e41
      have e41t : x40.toInt = x37.toInt - x38.toInt := by rw [e41]; exact n_sub (by omega) (by omega)
      refine aw_step (f1 := (100, [some (.ref 65), some (.int bo), some (.long s), none, some (.int ia), some (.int al), some (.int le), some (.int nu), some (.int nu), some (.int x35), some (.int x40), o11], [])) (w1 := w) rfl rfl ?_
      refine q_erD (e := fI w 65 28) (by omega) bo ia al le nu s o11 (fun wq lq hq kq Jq => ?_) 7 w nu x35 x40 (by omega) (by omega) (by omega) (by omega) J rfl
      refine aw_step (f1 := (150, [some (.ref 65), some (.int bo), some (.long s), none, some (.int ia), some (.int al), some (.int le), some (.int nu), some (.int lq), some (.int hq), some (.int kq), o11], [(.int hq)])) (w1 := wq) rfl rfl ?_
      refine s_i (pc1 := 151) (ls1 := [some (.ref 65), some (.int bo), some (.long s), none, some (.int ia), some (.int al), some (.int le), some (.int nu), some (.int lq), some (.int hq), some (.int kq), o11]) (st1 := [(.int hq)]) rfl rfl fun zx1 ze2 => ?_
      have ze2t : zx1.toInt = 1 := by rw [ze2]; rfl
      refine aw_step (f1 := (152, [some (.ref 65), some (.int bo), some (.long s), none, some (.int ia), some (.int al), some (.int le), some (.int nu), some (.int lq), some (.int hq), some (.int kq), o11], [(.ref 65), (.int zx1), (.int hq)])) (w1 := wq) rfl rfl ?_
      refine s_gi Jq 155 rfl rfl rfl rfl rfl rfl fun zx3 zx3a zx3b zx3f => ?_
      refine s_i (pc1 := 156) (ls1 := [some (.ref 65), some (.int bo), some (.long s), none, some (.int ia), some (.int al), some (.int le), some (.int nu), some (.int lq), some (.int hq), some (.int kq), o11]) (st1 := [(.int hq)]) rfl rfl fun zx4 ze5 => ?_
      have ze5 : zx4 = zx1 <<< (zx3 &&& 31) := ze5
      refine s_i (pc1 := 157) (ls1 := [some (.ref 65), some (.int bo), some (.long s), none, some (.int ia), some (.int al), some (.int le), some (.int nu), some (.int lq), some (.int hq), some (.int kq), o11]) (st1 := [(.int zx4), (.int hq)]) rfl rfl fun zx6 ze7 => ?_
      have ze7t : zx6.toInt = 1 := by rw [ze7]; rfl
      refine s_i (pc1 := 158) (ls1 := [some (.ref 65), some (.int bo), some (.long s), none, some (.int ia), some (.int al), some (.int le), some (.int nu), some (.int lq), some (.int hq), some (.int kq), o11]) (st1 := [(.int hq)]) rfl rfl fun zx8 ze9 => ?_
      have ze9 : zx8 = zx4 - zx6 := ze9
      refine s_ic 168 161 rfl rfl rfl (fun (zh10 : ¬ hq.toInt = zx8.toInt) => ?_) (fun (zh10 : ¬ (¬ hq.toInt = zx8.toInt)) => ?_)
      · --
        refine s_i (pc1 := 170) (ls1 := [some (.ref 65), some (.int bo), some (.long s), none, some (.int ia), some (.int al), some (.int le), some (.int nu), some (.int lq), some (.int hq), some (.int kq), o11]) (st1 := []) rfl rfl fun zx11 ze12 => ?_
        have ze12t : zx11.toInt = 100000 := by rw [ze12]; rfl
        refine aw_step (f1 := (172, [some (.ref 65), some (.int bo), some (.long s), none, some (.int ia), some (.int al), some (.int le), some (.int nu), some (.int lq), some (.int hq), some (.int zx11), o11], [])) (w1 := wq) rfl rfl ?_
        refine aw_step (f1 := (174, [some (.ref 65), some (.int bo), some (.long s), none, some (.int ia), some (.int al), some (.int le), some (.int nu), some (.int lq), some (.int hq), some (.int zx11), o11], [(.int zx11)])) (w1 := wq) rfl rfl ?_
        refine aw_step (f1 := (176, [some (.ref 65), some (.int bo), some (.long s), none, some (.int ia), some (.int al), some (.int le), some (.int nu), some (.int lq), some (.int hq), some (.int zx11), o11], [(.int le), (.int zx11)])) (w1 := wq) rfl rfl ?_
        refine s_ic 215 179 rfl rfl rfl (fun (zh13 : le.toInt ≤ zx11.toInt) => ?_) (fun (zh13 : ¬ (le.toInt ≤ zx11.toInt)) => ?_)
        · --
          refine aw_step (f1 := (218, [some (.ref 65), some (.int bo), some (.long s), none, some (.int ia), some (.int al), some (.int le), some (.int (nu + Int32.ofInt 1)), some (.int lq), some (.int hq), some (.int zx11), o11], [])) (w1 := wq) rfl rfl ?_
          obtain ⟨zx14, zx14e⟩ : ∃ z, z = (nu + Int32.ofInt 1) := ⟨_, rfl⟩
          have zx14t : zx14.toInt = nu.toInt + (1) := by rw [zx14e]; exact n_add (y := Int32.ofInt (1)) (by show _ ≤ _ + (1 : Int); omega) (by show _ + (1 : Int) ≤ _; omega)
          rw [← zx14e]
          refine aw_step (f1 := (78, [some (.ref 65), some (.int bo), some (.long s), none, some (.int ia), some (.int al), some (.int le), some (.int zx14), some (.int lq), some (.int hq), some (.int zx11), o11], [])) (w1 := wq) rfl rfl ?_
          exact ih wq le zx14 _ _ _ _ (by omega) (by omega) Jq
        · --
          refine aw_step (f1 := (181, [some (.ref 65), some (.int bo), some (.long s), none, some (.int ia), some (.int al), some (.int le), some (.int nu), some (.int lq), some (.int hq), some (.int zx11), o11], [(.int zx11)])) (w1 := wq) rfl rfl ?_
          refine aw_step (f1 := (183, [some (.ref 65), some (.int bo), some (.long s), none, some (.int ia), some (.int al), some (.int zx11), some (.int nu), some (.int lq), some (.int hq), some (.int zx11), o11], [])) (w1 := wq) rfl rfl ?_
          refine s_i (pc1 := 184) (ls1 := [some (.ref 65), some (.int bo), some (.long s), none, some (.int ia), some (.int al), some (.int zx11), some (.int nu), some (.int lq), some (.int hq), some (.int zx11), o11]) (st1 := []) rfl rfl fun zx15 ze16 => ?_
          have ze16t : zx15.toInt = 0 := by rw [ze16]; rfl
          refine aw_step (f1 := (186, [some (.ref 65), some (.int bo), some (.long s), none, some (.int ia), some (.int al), some (.int zx11), some (.int nu), some (.int lq), some (.int hq), some (.int zx11), some (.int zx15)], [])) (w1 := wq) rfl rfl ?_
          have eiu0 := fI_in (p := 65) (k := 28) Jq.1 rfl rfl
          refine q_erC (e := fI wq 65 28) (by omega) bo ia al zx11 nu zx11 s _ _ (fun wu0 ku0 Ju0 => ?_) 7 wq zx15 (by omega) (by omega) (by omega) Jq rfl
          refine aw_step (f1 := (218, [some (.ref 65), some (.int bo), some (.long s), none, some (.int ia), some (.int al), some (.int zx11), some (.int (nu + Int32.ofInt 1)), some (.int lq), some (.int hq), some (.int zx11), some (.int ku0)], [])) (w1 := wu0) rfl rfl ?_
          obtain ⟨u0x1, u0x1e⟩ : ∃ z, z = (nu + Int32.ofInt 1) := ⟨_, rfl⟩
          have u0x1t : u0x1.toInt = nu.toInt + (1) := by rw [u0x1e]; exact n_add (y := Int32.ofInt (1)) (by show _ ≤ _ + (1 : Int); omega) (by show _ + (1 : Int) ≤ _; omega)
          rw [← u0x1e]
          refine aw_step (f1 := (78, [some (.ref 65), some (.int bo), some (.long s), none, some (.int ia), some (.int al), some (.int zx11), some (.int u0x1), some (.int lq), some (.int hq), some (.int zx11), some (.int ku0)], [])) (w1 := wu0) rfl rfl ?_
          exact ih wu0 zx11 u0x1 _ _ _ _ (by omega) (by omega) Ju0
      · --
        refine aw_step (f1 := (162, [some (.ref 65), some (.int bo), some (.long s), none, some (.int ia), some (.int al), some (.int le), some (.int nu), some (.int lq), some (.int hq), some (.int kq), o11], [(.ref 65)])) (w1 := wq) rfl rfl ?_
        refine s_cv (z := 154) (p := 65) (as := []) (st1 := []) Jq 165 rfl rfl rfl rfl rfl rfl rfl rfl (Nat.le_of_ble_eq_true rfl) (Nat.le_of_ble_eq_true rfl) ((ok_i (as := [.ref 65]) (-2147483648) (2147483647) kg54 (by decide) Jq.1 (And.intro (vF_r) (trivial))).deep (by omega)) ?_
        rintro _ zw18 ⟨zJ19c, zx17, rfl, zx17a, zx17b⟩
        have zJ19 := Jq.trans zJ19c
        refine ⟨am_len2 Jq zJ19c, ?_⟩
        show aw none _ 155 _ (165, [some (.ref 65), some (.int bo), some (.long s), none, some (.int ia), some (.int al), some (.int le), some (.int nu), some (.int lq), some (.int hq), some (.int kq), o11], [(.int zx17)]) zw18
        refine aw_step (f1 := (170, [some (.ref 65), some (.int bo), some (.long s), none, some (.int ia), some (.int al), some (.int le), some (.int nu), some (.int lq), some (.int hq), some (.int kq), o11], [(.int zx17)])) (w1 := zw18) rfl rfl ?_
        refine aw_step (f1 := (172, [some (.ref 65), some (.int bo), some (.long s), none, some (.int ia), some (.int al), some (.int le), some (.int nu), some (.int lq), some (.int hq), some (.int zx17), o11], [])) (w1 := zw18) rfl rfl ?_
        refine aw_step (f1 := (174, [some (.ref 65), some (.int bo), some (.long s), none, some (.int ia), some (.int al), some (.int le), some (.int nu), some (.int lq), some (.int hq), some (.int zx17), o11], [(.int zx17)])) (w1 := zw18) rfl rfl ?_
        refine aw_step (f1 := (176, [some (.ref 65), some (.int bo), some (.long s), none, some (.int ia), some (.int al), some (.int le), some (.int nu), some (.int lq), some (.int hq), some (.int zx17), o11], [(.int le), (.int zx17)])) (w1 := zw18) rfl rfl ?_
        refine s_ic 215 179 rfl rfl rfl (fun (zh20 : le.toInt ≤ zx17.toInt) => ?_) (fun (zh20 : ¬ (le.toInt ≤ zx17.toInt)) => ?_)
        · --
          refine aw_step (f1 := (218, [some (.ref 65), some (.int bo), some (.long s), none, some (.int ia), some (.int al), some (.int le), some (.int (nu + Int32.ofInt 1)), some (.int lq), some (.int hq), some (.int zx17), o11], [])) (w1 := zw18) rfl rfl ?_
          obtain ⟨zx21, zx21e⟩ : ∃ z, z = (nu + Int32.ofInt 1) := ⟨_, rfl⟩
          have zx21t : zx21.toInt = nu.toInt + (1) := by rw [zx21e]; exact n_add (y := Int32.ofInt (1)) (by show _ ≤ _ + (1 : Int); omega) (by show _ + (1 : Int) ≤ _; omega)
          rw [← zx21e]
          refine aw_step (f1 := (78, [some (.ref 65), some (.int bo), some (.long s), none, some (.int ia), some (.int al), some (.int le), some (.int zx21), some (.int lq), some (.int hq), some (.int zx17), o11], [])) (w1 := zw18) rfl rfl ?_
          exact ih zw18 le zx21 _ _ _ _ (by omega) (by omega) zJ19
        · --
          refine aw_step (f1 := (181, [some (.ref 65), some (.int bo), some (.long s), none, some (.int ia), some (.int al), some (.int le), some (.int nu), some (.int lq), some (.int hq), some (.int zx17), o11], [(.int zx17)])) (w1 := zw18) rfl rfl ?_
          refine aw_step (f1 := (183, [some (.ref 65), some (.int bo), some (.long s), none, some (.int ia), some (.int al), some (.int zx17), some (.int nu), some (.int lq), some (.int hq), some (.int zx17), o11], [])) (w1 := zw18) rfl rfl ?_
          refine s_i (pc1 := 184) (ls1 := [some (.ref 65), some (.int bo), some (.long s), none, some (.int ia), some (.int al), some (.int zx17), some (.int nu), some (.int lq), some (.int hq), some (.int zx17), o11]) (st1 := []) rfl rfl fun zx22 ze23 => ?_
          have ze23t : zx22.toInt = 0 := by rw [ze23]; rfl
          refine aw_step (f1 := (186, [some (.ref 65), some (.int bo), some (.long s), none, some (.int ia), some (.int al), some (.int zx17), some (.int nu), some (.int lq), some (.int hq), some (.int zx17), some (.int zx22)], [])) (w1 := zw18) rfl rfl ?_
          have eiu1 := fI_in (p := 65) (k := 28) zJ19.1 rfl rfl
          refine q_erC (e := fI zw18 65 28) (by omega) bo ia al zx17 nu zx17 s _ _ (fun wu1 ku1 Ju1 => ?_) 7 zw18 zx22 (by omega) (by omega) (by omega) zJ19 rfl
          refine aw_step (f1 := (218, [some (.ref 65), some (.int bo), some (.long s), none, some (.int ia), some (.int al), some (.int zx17), some (.int (nu + Int32.ofInt 1)), some (.int lq), some (.int hq), some (.int zx17), some (.int ku1)], [])) (w1 := wu1) rfl rfl ?_
          obtain ⟨u1x1, u1x1e⟩ : ∃ z, z = (nu + Int32.ofInt 1) := ⟨_, rfl⟩
          have u1x1t : u1x1.toInt = nu.toInt + (1) := by rw [u1x1e]; exact n_add (y := Int32.ofInt (1)) (by show _ ≤ _ + (1 : Int); omega) (by show _ + (1 : Int) ≤ _; omega)
          rw [← u1x1e]
          refine aw_step (f1 := (78, [some (.ref 65), some (.int bo), some (.long s), none, some (.int ia), some (.int al), some (.int zx17), some (.int u1x1), some (.int lq), some (.int hq), some (.int zx17), some (.int ku1)], [])) (w1 := wu1) rfl rfl ?_
          exact ih wu1 zx17 u1x1 _ _ _ _ (by omega) (by omega) Ju1
theorem q_erP {d : Nat} {w00 w : am_W} (J : ab_J ab_TT ab_sets ab_WR w00 w) (bo ia : Int32) (s : Int64) : ∀ (m : Nat) (al k : Int32), (fI w 65 28 - k.toInt).toNat < m → 0 ≤ k.toInt → aw none (d + 2) 155 (QS w00) (47, [some (.ref 65), some (.int bo), some (.long s), none, some (.int ia), some (.int al), some (.int k), none, none, none, none, none], []) w := by
  intro m
  induction m with
  | zero => intro al k p; omega
  | succ m ih =>
    intro al k p1 ha
    have ei := fI_in (p := 65) (k := 28) J.1 rfl rfl
    refine aw_step (f1 := (49, [some (.ref 65), some (.int bo), some (.long s), none, some (.int ia), some (.int al), some (.int k), none, none, none, none, none], [(.int k)])) (w1 := w) rfl rfl ?_
    refine aw_step (f1 := (50, [some (.ref 65), some (.int bo), some (.long s), none, some (.int ia), some (.int al), some (.int k), none, none, none, none, none], [(.ref 65), (.int k)])) (w1 := w) rfl rfl ?_
    refine s_gi J 53 rfl rfl rfl rfl rfl rfl fun x1 x1a x1b x1f => ?_
    have qx1 := fI_of x1f
    refine s_ic 71 56 rfl rfl rfl (fun (h2 : x1.toInt ≤ k.toInt) => ?_) (fun (h2 : ¬ (x1.toInt ≤ k.toInt)) => ?_)
    · --
      refine s_i (pc1 := 73) (ls1 := [some (.ref 65), some (.int bo), some (.long s), none, some (.int ia), some (.int al), some (.int k), none, none, none, none, none]) (st1 := []) rfl rfl fun x3 e4 => ?_
      have e4t : x3.toInt = 100000 := by rw [e4]; rfl
      refine aw_step (f1 := (75, [some (.ref 65), some (.int bo), some (.long s), none, some (.int ia), some (.int al), some (.int x3), none, none, none, none, none], [])) (w1 := w) rfl rfl ?_
      refine s_i (pc1 := 76) (ls1 := [some (.ref 65), some (.int bo), some (.long s), none, some (.int ia), some (.int al), some (.int x3), none, none, none, none, none]) (st1 := []) rfl rfl fun x5 e6 => ?_
      have e6t : x5.toInt = 0 := by rw [e6]; rfl
      refine aw_step (f1 := (78, [some (.ref 65), some (.int bo), some (.long s), none, some (.int ia), some (.int al), some (.int x3), some (.int x5), none, none, none, none], [])) (w1 := w) rfl rfl ?_
      exact q_erN bo ia al s (al.toInt.toNat + 1) w x3 x5 _ _ _ _ (by omega) (by omega) J
    · --
      refine aw_step (f1 := (58, [some (.ref 65), some (.int bo), some (.long s), none, some (.int ia), some (.int al), some (.int k), none, none, none, none, none], [(.int al)])) (w1 := w) rfl rfl ?_
      refine aw_step (f1 := (59, [some (.ref 65), some (.int bo), some (.long s), none, some (.int ia), some (.int al), some (.int k), none, none, none, none, none], [(.ref 65), (.int al)])) (w1 := w) rfl rfl ?_
      refine s_gi J 62 rfl rfl rfl rfl rfl rfl fun x7 x7a x7b x7f => ?_
      have qx7 := fI_of x7f
      refine s_i (pc1 := 63) (ls1 := [some (.ref 65), some (.int bo), some (.long s), none, some (.int ia), some (.int al), some (.int k), none, none, none, none, none]) (st1 := []) rfl rfl fun x8 e9 => ?_
      have e9 : x8 = al * x7 := e9
      refine aw_step (f1 := (65, [some (.ref 65), some (.int bo), some (.long s), none, some (.int ia), some (.int x8), some (.int k), none, none, none, none, none], [])) (w1 := w) rfl rfl ?_
      refine aw_step (f1 := (68, [some (.ref 65), some (.int bo), some (.long s), none, some (.int ia), some (.int x8), some (.int (k + Int32.ofInt 1)), none, none, none, none, none], [])) (w1 := w) rfl rfl ?_
      obtain ⟨x10, x10e⟩ : ∃ z, z = (k + Int32.ofInt 1) := ⟨_, rfl⟩
      have x10t : x10.toInt = k.toInt + (1) := by rw [x10e]; exact n_add (y := Int32.ofInt (1)) (by show _ ≤ _ + (1 : Int); omega) (by show _ + (1 : Int) ≤ _; omega)
      rw [← x10e]
      refine aw_step (f1 := (47, [some (.ref 65), some (.int bo), some (.long s), none, some (.int ia), some (.int x8), some (.int x10), none, none, none, none, none], [])) (w1 := w) rfl rfl ?_
      exact ih x8 x10 (by omega) (by omega)
theorem q_errands {d : Nat} {w : am_W} (bo : Int32) (s : Int64) (ia : Int32) (I : ab_inv ab_TT ab_sets w) : aw none (d + 6) 155 (QS w) (0, am_entry 155 [.ref 65, .int bo, .long s, .int ia], []) w := by
  have J : ab_J ab_TT ab_sets ab_WR w w := ⟨I, ab_fr.rf⟩
  have sz := szM_in I
  show aw none (d + 6) 155 _ (0, [some (.ref 65), some (.int bo), some (.long s), none, some (.int ia), none, none, none, none, none, none, none], []) w
  refine aw_step (f1 := (1, [some (.ref 65), some (.int bo), some (.long s), none, some (.int ia), none, none, none, none, none, none, none], [(.int bo)])) (w1 := w) rfl rfl ?_
  refine s_cs (z := 116) (as := [(.int bo)]) (st1 := []) 4 rfl rfl rfl rfl rfl rfl (Nat.le_of_ble_eq_true rfl) (Nat.le_of_ble_eq_true rfl) (Nat.le_of_ble_eq_true rfl) (q_areBoots bo) ?_
  rintro _ _ ⟨rfl, x1, rfl, x1t⟩
  refine ⟨rfl, ?_⟩
  show aw none _ 155 _ (4, [some (.ref 65), some (.int bo), some (.long s), none, some (.int ia), none, none, none, none, none, none, none], [(.int x1)]) w
  refine s_if 9 7 rfl rfl rfl (fun (h2 : ¬ x1.toInt = 0) => ?_) (fun (h2 : ¬ (¬ x1.toInt = 0)) => ?_)
  · --
    refine aw_step (f1 := (10, [some (.ref 65), some (.int bo), some (.long s), none, some (.int ia), none, none, none, none, none, none, none], [(.ref 65)])) (w1 := w) rfl rfl ?_
    refine aw_step (f1 := (11, [some (.ref 65), some (.int bo), some (.long s), none, some (.int ia), none, none, none, none, none, none, none], [(.long s), (.ref 65)])) (w1 := w) rfl rfl ?_
    refine s_cv (z := 152) (p := 65) (as := [(.long s)]) (st1 := []) J 14 rfl rfl rfl rfl rfl rfl rfl rfl (Nat.le_of_ble_eq_true rfl) (Nat.le_of_ble_eq_true rfl) ((ok_i (as := [.ref 65, .long s]) (0) (1) kg19 (by decide) J.1 (And.intro (vF_r) (And.intro (vF_tl) (trivial)))).deep (by omega)) ?_
    rintro _ w4 ⟨J5c, x3, rfl, x3a, x3b⟩
    have J5 := J.trans J5c
    refine ⟨am_len2 J J5c, ?_⟩
    show aw none _ 155 _ (14, [some (.ref 65), some (.int bo), some (.long s), none, some (.int ia), none, none, none, none, none, none, none], [(.int x3)]) w4
    refine s_if 20 17 rfl rfl rfl (fun (h6 : ¬ x3.toInt = 0) => ?_) (fun (h6 : ¬ (¬ x3.toInt = 0)) => ?_)
    · --
      refine aw_step (f1 := (21, [some (.ref 65), some (.int bo), some (.long s), none, some (.int ia), none, none, none, none, none, none, none], [(.long s)])) (w1 := w4) rfl rfl ?_
      refine s_cs (z := 109) (as := [(.long s)]) (st1 := []) 24 rfl rfl rfl rfl rfl rfl (Nat.le_of_ble_eq_true rfl) (Nat.le_of_ble_eq_true rfl) (Nat.le_of_ble_eq_true rfl) (q_ones s) ?_
      rintro _ _ ⟨rfl, x7, rfl, x7t⟩
      refine ⟨rfl, ?_⟩
      show aw none _ 155 _ (24, [some (.ref 65), some (.int bo), some (.long s), none, some (.int ia), none, none, none, none, none, none, none], [(.int x7)]) w4
      have x7c := cnt_le (n64 s) 64
      refine s_i (pc1 := 25) (ls1 := [some (.ref 65), some (.int bo), some (.long s), none, some (.int ia), none, none, none, none, none, none, none]) (st1 := [(.int x7)]) rfl rfl fun x8 e9 => ?_
      have e9t : x8.toInt = 5 := by rw [e9]; rfl
      refine s_ic 31 28 rfl rfl rfl (fun (h10 : x7.toInt ≤ x8.toInt) => ?_) (fun (h10 : ¬ (x7.toInt ≤ x8.toInt)) => ?_)
      · --
        refine aw_step (f1 := (32, [some (.ref 65), some (.int bo), some (.long s), none, some (.int ia), none, none, none, none, none, none, none], [(.ref 65)])) (w1 := w4) rfl rfl ?_
        refine aw_step (f1 := (33, [some (.ref 65), some (.int bo), some (.long s), none, some (.int ia), none, none, none, none, none, none, none], [(.int bo), (.ref 65)])) (w1 := w4) rfl rfl ?_
        refine s_cv (z := 133) (p := 65) (as := [(.int bo)]) (st1 := []) J5 36 rfl rfl rfl rfl rfl rfl rfl rfl (Nat.le_of_ble_eq_true rfl) (Nat.le_of_ble_eq_true rfl) (q_putOn bo ⟨by omega, by omega⟩ J5.1) ?_
        rintro _ w11 ⟨rfl, J12c, w11o, w11p⟩
        have J12 := J5.trans J12c
        refine ⟨am_len2 J5 J12c, ?_⟩
        show aw none _ 155 _ (36, [some (.ref 65), some (.int bo), some (.long s), none, some (.int ia), none, none, none, none, none, none, none], []) w11
        refine aw_step (f1 := (37, [some (.ref 65), some (.int bo), some (.long s), none, some (.int ia), none, none, none, none, none, none, none], [(.ref 65)])) (w1 := w11) rfl rfl ?_
        refine aw_step (f1 := (38, [some (.ref 65), some (.int bo), some (.long s), none, some (.int ia), none, none, none, none, none, none, none], [(.long s), (.ref 65)])) (w1 := w11) rfl rfl ?_
        refine s_cv (z := 153) (p := 65) (as := [(.long s)]) (st1 := []) J12 41 rfl rfl rfl rfl rfl rfl rfl rfl (Nat.le_of_ble_eq_true rfl) (Nat.le_of_ble_eq_true rfl) (q_layErrands s (by omega) J12.1) ?_
        rintro _ w13 ⟨rfl, J14c⟩
        have J14 := J12.trans J14c
        refine ⟨am_len2 J12 J14c, ?_⟩
        show aw none _ 155 _ (41, [some (.ref 65), some (.int bo), some (.long s), none, some (.int ia), none, none, none, none, none, none, none], []) w13
        refine s_i (pc1 := 42) (ls1 := [some (.ref 65), some (.int bo), some (.long s), none, some (.int ia), none, none, none, none, none, none, none]) (st1 := []) rfl rfl fun x15 e16 => ?_
        have e16t : x15.toInt = 1 := by rw [e16]; rfl
        refine aw_step (f1 := (44, [some (.ref 65), some (.int bo), some (.long s), none, some (.int ia), some (.int x15), none, none, none, none, none, none], [])) (w1 := w13) rfl rfl ?_
        refine s_i (pc1 := 45) (ls1 := [some (.ref 65), some (.int bo), some (.long s), none, some (.int ia), some (.int x15), none, none, none, none, none, none]) (st1 := []) rfl rfl fun x17 e18 => ?_
        have e18t : x17.toInt = 0 := by rw [e18]; rfl
        refine aw_step (f1 := (47, [some (.ref 65), some (.int bo), some (.long s), none, some (.int ia), some (.int x15), some (.int x17), none, none, none, none, none], [])) (w1 := w13) rfl rfl ?_
        have ei := fI_in (p := 65) (k := 28) J14.1 rfl rfl
        exact q_erP J14 bo ia s 7 x15 x17 (by omega) (by omega)
      · --
        refine s_i (pc1 := 30) (ls1 := [some (.ref 65), some (.int bo), some (.long s), none, some (.int ia), none, none, none, none, none, none, none]) (st1 := []) rfl rfl fun x19 e20 => ?_
        have e20t : x19.toInt = -4 := by rw [e20]; rfl
        refine aw_ret (v := some (.int x19)) rfl rfl ?_
        exact ⟨J5, x19, rfl⟩
    · --
      refine s_i (pc1 := 19) (ls1 := [some (.ref 65), some (.int bo), some (.long s), none, some (.int ia), none, none, none, none, none, none, none]) (st1 := []) rfl rfl fun x21 e22 => ?_
      have e22t : x21.toInt = -2 := by rw [e22]; rfl
      refine aw_ret (v := some (.int x21)) rfl rfl ?_
      exact ⟨J5, x21, rfl⟩
  · --
    refine s_i (pc1 := 8) (ls1 := [some (.ref 65), some (.int bo), some (.long s), none, some (.int ia), none, none, none, none, none, none, none]) (st1 := []) rfl rfl fun x23 e24 => ?_
    have e24t : x23.toInt = -1 := by rw [e24]; rfl
    refine aw_ret (v := some (.int x23)) rfl rfl ?_
    exact ⟨J, x23, rfl⟩
