/-! ===== stretches of findChances and year, walked by hand ===== -/
theorem l_mul {x y : Int64} (h1 : -9223372036854775808 ≤ x.toInt * y.toInt) (h2 : x.toInt * y.toInt ≤ 9223372036854775807) : (x * y).toInt = x.toInt * y.toInt := by rw [Int64.toInt_mul]; exact Int.bmod_eq_of_le (by omega) (by omega)
theorem l_add {x y : Int64} (h1 : -9223372036854775808 ≤ x.toInt + y.toInt) (h2 : x.toInt + y.toInt ≤ 9223372036854775807) : (x + y).toInt = x.toInt + y.toInt := by rw [Int64.toInt_add]; exact Int.bmod_eq_of_le (by omega) (by omega)
theorem l_i {x : Int64} (h1 : -2147483648 ≤ x.toInt) (h2 : x.toInt ≤ 2147483647) : x.toInt32.toInt = x.toInt := by rw [Int64.toInt_toInt32]; exact ab_bmod h1 h2
theorem n64_36 {x : Int64} (h0 : 0 ≤ x.toInt) (h : x.toInt ≤ 68719476735) : n64 x < 2 ^ 36 := by have := n64_of h0; omega
theorem l_8 {α : Type} : ∀ {l : List α}, l.length = 8 → ∃ a0 a1 a2 a3 a4 a5 a6 a7, l = [a0, a1, a2, a3, a4, a5, a6, a7]
  | [a0, a1, a2, a3, a4, a5, a6, a7], _ => ⟨a0, a1, a2, a3, a4, a5, a6, a7, rfl⟩
theorem l_12 {α : Type} : ∀ {l : List α}, l.length = 12 → ∃ a0 a1 a2 a3 a4 a5 a6 a7 a8 a9 a10 a11, l = [a0, a1, a2, a3, a4, a5, a6, a7, a8, a9, a10, a11]
  | [a0, a1, a2, a3, a4, a5, a6, a7, a8, a9, a10, a11], _ => ⟨a0, a1, a2, a3, a4, a5, a6, a7, a8, a9, a10, a11, rfl⟩
noncomputable def mc_div (t : ab_T) : ab_R := match t.2.1, t.2.2.1 with
  | [some (2, 65, 0), _, _, _, _, _, some (0, i, o), some (0, j, p)], [(1, _, _), (0, _, _), (2, 85, 0)] => bif mc_in t.1 (0, i, o) 0 35 && mc_in t.1 (0, j, p) 0 35 then ab_1 143 (ab_top64 t.1) t.2.1 t.2.2.1 t.2.2.2 else none
  | _, _ => none
set_option maxRecDepth 100000 in
theorem mc_divH {d : Nat} : ab_mok ab_TT ab_sets ab_WR (d + 1) 170 105 mc_div := by
  intro G w0 Q t L σ ls st w hft hg J h
  obtain ⟨E, LL, SS, GG⟩ := t
  obtain ⟨g1, g2, g3, g4⟩ := hg
  unfold mc_div at hft
  simp only at hft
  split at hft
  · rename_i i o j p b1 b2 b3 b4
    obtain ⟨c, e⟩ := am_bif hft
    obtain ⟨c1, c2⟩ := am_and c
    obtain ⟨v1, st1, rfl, s1, g3a⟩ := ab_stk_cons g3
    obtain ⟨v2, st2, rfl, s2, g3b⟩ := ab_stk_cons g3a
    obtain ⟨v3, st3, rfl, s3, g3c⟩ := ab_stk_cons g3b
    obtain ⟨s, rfl, -, -⟩ := ab_sl_l s1 rfl
    obtain ⟨i, rfl, -, -⟩ := ab_sl_i s2 rfl
    have s3 := ab_sl_r s3 rfl
    subst s3
    have hs : st3 = [] := by
      cases st3 with
      | nil => rfl
      | cons v r => exact g3c.elim
    subst hs
    obtain ⟨o0, o1, o2, o3, o4, o5, o6, o7, rfl⟩ := l_8 g2.1.symm
    obtain ⟨v0, f0, k0⟩ := g2.2 0 (2, 65, 0) rfl
    obtain ⟨v6, f6, k6⟩ := g2.2 6 (0, _, _) rfl
    obtain ⟨v7, f7, k7⟩ := g2.2 7 (0, _, _) rfl
    have k0 := ab_sl_r k0 rfl
    subst k0
    cases Option.some.inj f0
    cases Option.some.inj f6
    cases Option.some.inj f7
    obtain ⟨a, rfl, k6a, k6b⟩ := ab_sl_i k6 rfl
    obtain ⟨c, rfl, k7a, k7b⟩ := ab_sl_i k7 rfl
    have q1 := mc_in_s c1 g1 k6a k6b
    have q2 := mc_in_s c2 g1 k7a k7b
    unfold ab_1 at e
    cases e
    have K : ∀ y : Int64, aw none (d + 1) 170 Q (143, [some (.ref 65), o1, o2, o3, o4, o5, some (.int a), some (.int c)], [.long y, .long s, .int i, .ref 85]) w := by
      intro y
      have q := ab_new_l (sets := ab_sets) g1 (ab_any64 y).1 (ab_any64 y).2
      exact h _ (List.mem_singleton.mpr rfl) [_] _ _ w ⟨q.1, g2.app _, ⟨q.2, g3.app _⟩, g4.app _⟩ J
    refine aw_step (f1 := (106, [some (.ref 65), o1, o2, o3, o4, o5, some (.int a), some (.int c)], [(.ref 65), (.long s), (.int i), (.ref 85)])) (w1 := w) rfl rfl ?_
    refine s_gr 74 J 109 rfl rfl rfl rfl rfl rfl ?_
    refine aw_step (f1 := (111, [some (.ref 65), o1, o2, o3, o4, o5, some (.int a), some (.int c)], [(.int c), (.ref 74), (.long s), (.int i), (.ref 85)])) (w1 := w) rfl rfl ?_
    refine s_la J 112 rfl rfl rfl (by omega) (by omega) fun y1 y1a y1b y1f => ?_
    have hbl := bt_le (n64 y1) a.toInt.toNat
    refine aw_step (f1 := (114, [some (.ref 65), o1, o2, o3, o4, o5, some (.int a), some (.int c)], [(.int a), (.long y1), (.long s), (.int i), (.ref 85)])) (w1 := w) rfl rfl ?_
    refine s_cs (z := 110) (as := [(.long y1), (.int a)]) (st1 := [(.long s), (.int i), (.ref 85)]) 117 rfl rfl rfl rfl rfl rfl (Nat.le_of_ble_eq_true rfl) (Nat.le_of_ble_eq_true rfl) (Nat.le_of_ble_eq_true rfl) (q_has y1 a (by omega) (by omega)) ?_
    rintro _ _ ⟨rfl, x2, rfl, x2t⟩
    refine ⟨rfl, ?_⟩
    show aw none _ 170 _ (117, [some (.ref 65), o1, o2, o3, o4, o5, some (.int a), some (.int c)], [(.int x2), (.long s), (.int i), (.ref 85)]) w
    refine s_if 142 120 rfl rfl rfl (fun (h3 : x2.toInt = 0) => ?_) (fun (h3 : ¬ (x2.toInt = 0)) => ?_)
    · --
      refine s_l (pc1 := 143) (ls1 := [some (.ref 65), o1, o2, o3, o4, o5, some (.int a), some (.int c)]) (st1 := [(.long s), (.int i), (.ref 85)]) rfl rfl fun y4 e5 => ?_
      have e5t : y4.toInt = 0 := by rw [e5]; rfl
      exact K y4
    · --
      refine aw_step (f1 := (121, [some (.ref 65), o1, o2, o3, o4, o5, some (.int a), some (.int c)], [(.ref 65), (.long s), (.int i), (.ref 85)])) (w1 := w) rfl rfl ?_
      refine s_gr 84 J 124 rfl rfl rfl rfl rfl rfl ?_
      refine aw_step (f1 := (126, [some (.ref 65), o1, o2, o3, o4, o5, some (.int a), some (.int c)], [(.int c), (.ref 84), (.long s), (.int i), (.ref 85)])) (w1 := w) rfl rfl ?_
      refine s_la J 127 rfl rfl rfl (by omega) (by omega) fun y6 y6a y6b y6f => ?_
      refine aw_step (f1 := (128, [some (.ref 65), o1, o2, o3, o4, o5, some (.int a), some (.int c)], [(.ref 65), (.long y6), (.long s), (.int i), (.ref 85)])) (w1 := w) rfl rfl ?_
      refine s_gr 74 J 131 rfl rfl rfl rfl rfl rfl ?_
      refine aw_step (f1 := (133, [some (.ref 65), o1, o2, o3, o4, o5, some (.int a), some (.int c)], [(.int c), (.ref 74), (.long y6), (.long s), (.int i), (.ref 85)])) (w1 := w) rfl rfl ?_
      refine s_la J 134 rfl rfl rfl (by omega) (by omega) fun y7 y7a y7b y7f => ?_
      have hq : y7 = y1 := Option.some.inj (y7f.symm.trans y1f)
      have hp := @bt_pos (n64 y1) 64 a.toInt.toNat
      refine s_cs (z := 109) (as := [(.long y7)]) (st1 := [(.long y6), (.long s), (.int i), (.ref 85)]) 137 rfl rfl rfl rfl rfl rfl (Nat.le_of_ble_eq_true rfl) (Nat.le_of_ble_eq_true rfl) (Nat.le_of_ble_eq_true rfl) (q_ones y7) ?_
      rintro _ _ ⟨rfl, x8, rfl, x8t⟩
      refine ⟨rfl, ?_⟩
      show aw none _ 170 _ (137, [some (.ref 65), o1, o2, o3, o4, o5, some (.int a), some (.int c)], [(.int x8), (.long y6), (.long s), (.int i), (.ref 85)]) w
      have x8c := cnt_le (n64 y7) 64
      rw [hq] at x8t x8c
      refine s_l (pc1 := 138) (ls1 := [some (.ref 65), o1, o2, o3, o4, o5, some (.int a), some (.int c)]) (st1 := [(.long y6), (.long s), (.int i), (.ref 85)]) rfl rfl fun y9 e10 => ?_
      have e10t : y9.toInt = x8.toInt := by rw [e10]; exact Int32.toInt_toInt64 x8
      refine s_dvl (f := fun x y => x / y) 139 rfl rfl (by omega) fun y11 e12 => ?_
      have e12 : y11 = y6 / y9 := e12
      refine aw_step (f1 := (143, [some (.ref 65), o1, o2, o3, o4, o5, some (.int a), some (.int c)], [(.long y11), (.long s), (.int i), (.ref 85)])) (w1 := w) rfl rfl ?_
      exact K y11
  · cases hft
noncomputable def mc_year (t : ab_T) : ab_R := match t.2.1, t.2.2.1 with
  | [some (2, 65, 0), _, _, _, some (0, _, _), some (0, i, o), some (0, j, p), _, _, _, some (0, _, _), _], [] => bif mc_in t.1 (0, i, o) 0 65536 && mc_in t.1 (0, j, p) 0 35 then some [(139, ((ab_new (ab_new (ab_new t.1 0 0 65536).1 0 0 64).1 0 0 35).1, ab_st1 (ab_st1 t.2.1 5 (ab_new t.1 0 0 65536).2) 11 (ab_new (ab_new t.1 0 0 65536).1 0 0 64).2, [(ab_new (ab_new (ab_new t.1 0 0 65536).1 0 0 64).1 0 0 35).2], t.2.2.2))] else none
  | _, _ => none
set_option maxRecDepth 100000 in
theorem mc_yearH {d : Nat} : ab_mok ab_TT ab_sets ab_WR (d + 2) 179 83 mc_year := by
  intro G w0 Q t L σ ls st w hft hg J h
  obtain ⟨E, LL, SS, GG⟩ := t
  obtain ⟨g1, g2, g3, g4⟩ := hg
  unfold mc_year at hft
  simp only at hft
  split at hft
  · rename_i b1 b2 b3 i4 o4 i o j p b7 b8 b9 i10 o10 b11
    obtain ⟨c, e⟩ := am_bif hft
    obtain ⟨c1, c2⟩ := am_and c
    have hs : st = [] := by
      cases st with
      | nil => rfl
      | cons v r => exact g3.elim
    subst hs
    obtain ⟨o0, o1, o2, o3, o4, o5, o6, o7, o8, o9, o10, o11, rfl⟩ := l_12 g2.1.symm
    obtain ⟨v0, f0, k0⟩ := g2.2 0 (2, 65, 0) rfl
    obtain ⟨v4, f4, k4⟩ := g2.2 4 (0, _, _) rfl
    obtain ⟨v5, f5, k5⟩ := g2.2 5 (0, _, _) rfl
    obtain ⟨v6, f6, k6⟩ := g2.2 6 (0, _, _) rfl
    obtain ⟨v10, f10, k10⟩ := g2.2 10 (0, _, _) rfl
    have k0 := ab_sl_r k0 rfl
    subst k0
    cases Option.some.inj f0
    cases Option.some.inj f4
    cases Option.some.inj f5
    cases Option.some.inj f6
    cases Option.some.inj f10
    obtain ⟨u, rfl, -, -⟩ := ab_sl_i k4 rfl
    obtain ⟨a, rfl, k5a, k5b⟩ := ab_sl_i k5 rfl
    obtain ⟨c, rfl, k6a, k6b⟩ := ab_sl_i k6 rfl
    obtain ⟨u2, rfl, -, -⟩ := ab_sl_i k10 rfl
    have q1 := mc_in_s c1 g1 k5a k5b
    have q2 := mc_in_s c2 g1 k6a k6b
    cases e
    have K : ∀ x m z : Int32, 0 ≤ x.toInt → x.toInt ≤ 65536 → 0 ≤ m.toInt → m.toInt ≤ 64 → 0 ≤ z.toInt → z.toInt ≤ 35 → aw none (d + 2) 179 Q (139, [some (.ref 65), o1, o2, o3, some (.int u), some (.int x), some (.int c), o7, o8, o9, some (.int u2), some (.int m)], [.int z]) w := by
      intro x m z x1 x2 m1 m2 z1 z2
      have t1 := ab_new_i (sets := ab_sets) g1 x1 x2
      have t2 := ab_new_i (sets := ab_sets) t1.1 m1 m2
      have t3 := ab_new_i (sets := ab_sets) t2.1 z1 z2
      have l1 := ab_st1_loc (i := 5) (g2.app _) (show 5 < 12 by decide) t1.2
      have l2 := ab_st1_loc (i := 11) (l1.app _) (show 11 < 12 by decide) t2.2
      refine h _ (List.mem_singleton.mpr rfl) [x.toInt, m.toInt, z.toInt] _ _ w ⟨?_, ?_, ?_, ?_⟩ J
      · have := t3.1
        rw [List.append_assoc, List.append_assoc] at this
        exact this
      · have := l2.app [z.toInt]
        rw [List.append_assoc, List.append_assoc] at this
        exact this
      · have := t3.2
        rw [List.append_assoc, List.append_assoc] at this
        exact ⟨this, trivial⟩
      · exact g4.app _
    refine s_l (pc1 := 86) (ls1 := [some (.ref 65), o1, o2, o3, some (.int u), some (.int a), some (.int c), o7, o8, o9, some (.int u2), o11]) (st1 := []) rfl rfl fun y1 e2 => ?_
    have e2t : y1.toInt = 75 := by rw [e2]; rfl
    refine aw_step (f1 := (88, [some (.ref 65), o1, o2, o3, some (.int u), some (.int a), some (.int c), o7, o8, o9, some (.int u2), o11], [(.int a), (.long y1)])) (w1 := w) rfl rfl ?_
    refine s_l (pc1 := 89) (ls1 := [some (.ref 65), o1, o2, o3, some (.int u), some (.int a), some (.int c), o7, o8, o9, some (.int u2), o11]) (st1 := [(.long y1)]) rfl rfl fun y3 e4 => ?_
    have e4t : y3.toInt = a.toInt := by rw [e4]; exact Int32.toInt_toInt64 a
    refine s_l (pc1 := 90) (ls1 := [some (.ref 65), o1, o2, o3, some (.int u), some (.int a), some (.int c), o7, o8, o9, some (.int u2), o11]) (st1 := []) rfl rfl fun y5 e6 => ?_
    have e6 : y5 = y1 * y3 := e6
    have m1 : y5.toInt = 75 * a.toInt := by rw [e6, l_mul (by rw [e2t, e4t]; omega) (by rw [e2t, e4t]; omega), e2t, e4t]
    refine s_l (pc1 := 93) (ls1 := [some (.ref 65), o1, o2, o3, some (.int u), some (.int a), some (.int c), o7, o8, o9, some (.int u2), o11]) (st1 := [(.long y5)]) rfl rfl fun y7 e8 => ?_
    have e8t : y7.toInt = 74 := by rw [e8]; rfl
    refine s_l (pc1 := 94) (ls1 := [some (.ref 65), o1, o2, o3, some (.int u), some (.int a), some (.int c), o7, o8, o9, some (.int u2), o11]) (st1 := []) rfl rfl fun y9 e10 => ?_
    have e10 : y9 = y5 + y7 := e10
    have m2 : y9.toInt = 75 * a.toInt + 74 := by rw [e10, l_add (by rw [e8t, m1]; omega) (by rw [e8t, m1]; omega), e8t, m1]
    refine s_l (pc1 := 97) (ls1 := [some (.ref 65), o1, o2, o3, some (.int u), some (.int a), some (.int c), o7, o8, o9, some (.int u2), o11]) (st1 := [(.long y9)]) rfl rfl fun y11 e12 => ?_
    have e12t : y11.toInt = 65537 := by rw [e12]; rfl
    refine s_dvl (f := fun x y => x - x / y * y) 98 rfl rfl (by omega) fun y13 e14 => ?_
    have e14 : y13 = y9 - y9 / y11 * y11 := e14
    have m3 : 0 ≤ y13.toInt ∧ y13.toInt ≤ 65536 := by rw [e14, l_rem (by omega), e12t, m2, Int.tmod_eq_emod_of_nonneg (by omega)]; omega
    refine s_i (pc1 := 99) (ls1 := [some (.ref 65), o1, o2, o3, some (.int u), some (.int a), some (.int c), o7, o8, o9, some (.int u2), o11]) (st1 := []) rfl rfl fun x15 e16 => ?_
    have e16 : x15 = y13.toInt32 := e16
    have m4 : x15.toInt = y13.toInt := by rw [e16]; exact l_i (by omega) (by omega)
    refine aw_step (f1 := (101, [some (.ref 65), o1, o2, o3, some (.int u), some (.int x15), some (.int c), o7, o8, o9, some (.int u2), o11], [])) (w1 := w) rfl rfl ?_
    refine aw_step (f1 := (102, [some (.ref 65), o1, o2, o3, some (.int u), some (.int x15), some (.int c), o7, o8, o9, some (.int u2), o11], [(.ref 65)])) (w1 := w) rfl rfl ?_
    refine s_gr 74 J 105 rfl rfl rfl rfl rfl rfl ?_
    refine aw_step (f1 := (107, [some (.ref 65), o1, o2, o3, some (.int u), some (.int x15), some (.int c), o7, o8, o9, some (.int u2), o11], [(.int c), (.ref 74)])) (w1 := w) rfl rfl ?_
    refine s_la J 108 rfl rfl rfl (by omega) (by omega) fun y17 y17a y17b y17f => ?_
    refine s_cs (z := 109) (as := [(.long y17)]) (st1 := []) 111 rfl rfl rfl rfl rfl rfl (Nat.le_of_ble_eq_true rfl) (Nat.le_of_ble_eq_true rfl) (Nat.le_of_ble_eq_true rfl) (q_ones y17) ?_
    rintro _ _ ⟨rfl, x18, rfl, x18t⟩
    refine ⟨rfl, ?_⟩
    show aw none _ 179 _ (111, [some (.ref 65), o1, o2, o3, some (.int u), some (.int x15), some (.int c), o7, o8, o9, some (.int u2), o11], [(.int x18)]) w
    have x18c := cnt_le (n64 y17) 64
    refine aw_step (f1 := (113, [some (.ref 65), o1, o2, o3, some (.int u), some (.int x15), some (.int c), o7, o8, o9, some (.int u2), some (.int x18)], [])) (w1 := w) rfl rfl ?_
    refine aw_step (f1 := (115, [some (.ref 65), o1, o2, o3, some (.int u), some (.int x15), some (.int c), o7, o8, o9, some (.int u2), some (.int x18)], [(.int x18)])) (w1 := w) rfl rfl ?_
    refine s_if 123 118 rfl rfl rfl (fun (h19 : ¬ x18.toInt = 0) => ?_) (fun (h19 : ¬ (¬ x18.toInt = 0)) => ?_)
    · --
      refine aw_step (f1 := (124, [some (.ref 65), o1, o2, o3, some (.int u), some (.int x15), some (.int c), o7, o8, o9, some (.int u2), some (.int x18)], [(.ref 65)])) (w1 := w) rfl rfl ?_
      refine aw_step (f1 := (125, [some (.ref 65), o1, o2, o3, some (.int u), some (.int x15), some (.int c), o7, o8, o9, some (.int u2), some (.int x18)], [(.ref 65), (.ref 65)])) (w1 := w) rfl rfl ?_
      refine s_gr 74 J 128 rfl rfl rfl rfl rfl rfl ?_
      refine aw_step (f1 := (130, [some (.ref 65), o1, o2, o3, some (.int u), some (.int x15), some (.int c), o7, o8, o9, some (.int u2), some (.int x18)], [(.int c), (.ref 74), (.ref 65)])) (w1 := w) rfl rfl ?_
      refine s_la J 131 rfl rfl rfl (by omega) (by omega) fun y20 y20a y20b y20f => ?_
      have hq : y20 = y17 := Option.some.inj (y20f.symm.trans y17f)
      subst hq
      refine aw_step (f1 := (133, [some (.ref 65), o1, o2, o3, some (.int u), some (.int x15), some (.int c), o7, o8, o9, some (.int u2), some (.int x18)], [(.int x15), (.long y20), (.ref 65)])) (w1 := w) rfl rfl ?_
      refine aw_step (f1 := (135, [some (.ref 65), o1, o2, o3, some (.int u), some (.int x15), some (.int c), o7, o8, o9, some (.int u2), some (.int x18)], [(.int x18), (.int x15), (.long y20), (.ref 65)])) (w1 := w) rfl rfl ?_
      refine s_dv (f := fun x y => x - x / y * y) 136 rfl rfl (by omega) fun x21 e22 => ?_
      have e22 : x21 = x15 - x15 / x18 * x18 := e22
      have e22t : x21.toInt = x15.toInt % x18.toInt := by rw [e22]; exact n_rem (by omega) (by omega)
      have hr1 := Int.emod_nonneg x15.toInt (show x18.toInt ≠ 0 by omega)
      have hr2 := Int.emod_lt_of_pos x15.toInt (show 0 < x18.toInt by omega)
      refine s_cv (z := 178) (p := 65) (as := [(.long y20), (.int x21)]) (st1 := []) J 139 rfl rfl rfl rfl rfl rfl rfl rfl (Nat.le_of_ble_eq_true rfl) (Nat.le_of_ble_eq_true rfl) (q_nth y20 x21 (n64_36 (by omega) (by omega)) (by omega) (by omega)) ?_
      rintro _ _ ⟨rfl, x23, rfl, x23a, x23b, x23t⟩
      refine ⟨rfl, ?_⟩
      show aw none _ 179 _ (139, [some (.ref 65), o1, o2, o3, some (.int u), some (.int x15), some (.int c), o7, o8, o9, some (.int u2), some (.int x18)], [(.int x23)]) w
      exact K x15 x18 x23 (by omega) (by omega) (by omega) (by omega) (by omega) (by omega)
    · --
      refine aw_step (f1 := (120, [some (.ref 65), o1, o2, o3, some (.int u), some (.int x15), some (.int c), o7, o8, o9, some (.int u2), some (.int x18)], [(.int c)])) (w1 := w) rfl rfl ?_
      refine aw_step (f1 := (139, [some (.ref 65), o1, o2, o3, some (.int u), some (.int x15), some (.int c), o7, o8, o9, some (.int u2), some (.int x18)], [(.int c)])) (w1 := w) rfl rfl ?_
      exact K x15 x18 c (by omega) (by omega) (by omega) (by omega) (by omega) (by omega)
  · cases hft
noncomputable def m_ones : ab_M := ([(1, ab_lo64, ab_hi64)], [(some (0, 0, 64), [(1, ab_lo64, ab_hi64)])])
theorem k_ones : ab_ok ab_TT ab_sets ab_WR 1 109 m_ones := by
  intro w as hI hv
  match as, hv with
  | [v], hv =>
    rcases hv.1 with ⟨h, -⟩ | ⟨-, x, rfl, -, -⟩ | ⟨h, -⟩ | ⟨h, -⟩
    · cases h
    · refine ⟨Nat.le_of_ble_eq_true rfl, (q_ones x).mono ?_⟩
      rintro _ _ ⟨rfl, b, rfl, hb⟩
      have := cnt_le (n64 x) 64
      exact ⟨⟨hI, ab_fr.rf⟩, _, List.mem_singleton.mpr rfl, Or.inl ⟨rfl, b, rfl, by show (0 : Int) ≤ _; omega, by show _ ≤ (64 : Int); omega⟩, ⟨Or.inr (Or.inl ⟨rfl, x, rfl, (ab_any64 x).1, (ab_any64 x).2⟩), trivial⟩⟩
    · cases h
    · cases h
  | [], hv => exact hv.elim
  | _ :: _ :: _, hv => exact hv.2.elim
