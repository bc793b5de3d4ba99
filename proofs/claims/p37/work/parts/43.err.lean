/-! ===== chance, errands ===== -/
noncomputable def QSl (w : am_W) : Option Value → am_W → Prop := fun r w1 => ab_J ab_TT ab_sets ab_WR w w1 ∧ ∃ b : Int64, r = some (.long b)
theorem p840 {k : Int} (h0 : 0 ≤ k) (h1 : k ≤ 5) : (1 : Int) ≤ 840 ^ k.toNat ∧ (840 : Int) ^ k.toNat ≤ 418211942400000 := by
  have : k = 0 ∨ k = 1 ∨ k = 2 ∨ k = 3 ∨ k = 4 ∨ k = 5 := by omega
  rcases this with rfl | rfl | rfl | rfl | rfl | rfl <;> decide
theorem p840s {k k' : Int} (h0 : 0 ≤ k) (e : k' = k + 1) : (840 : Int) ^ k'.toNat = 840 ^ k.toNat * 840 := by rw [e, show (k + 1).toNat = k.toNat + 1 by omega, Int.pow_succ]
theorem q_chanceL {d : Nat} {w00 w : am_W} (J : ab_J ab_TT ab_sets ab_WR w00 w) (bo f t n pa : Int32) (hf : 0 ≤ f.toInt ∧ f.toInt < 36) (ht : 0 ≤ t.toInt ∧ t.toInt < 36) (o9 : Option Value) (hn : 0 ≤ n.toInt ∧ n.toInt ≤ 5) : ∀ (m : Nat) (y : Int64) (k : Int32), (n.toInt - k.toInt).toNat < m → 0 ≤ k.toInt → k.toInt ≤ n.toInt → y.toInt = 840 ^ k.toInt.toNat → aw none (d + 3) 171 (QSl w00) (53, [some (.ref 65), some (.int bo), some (.int f), some (.int t), some (.int n), some (.int pa), some (.long y), none, some (.int k), o9], []) w := by
  intro m
  induction m with
  | zero => intro y k p; omega
  | succ m ih =>
    intro y k p1 p2 p3 Y
    refine aw_step (f1 := (55, [some (.ref 65), some (.int bo), some (.int f), some (.int t), some (.int n), some (.int pa), some (.long y), none, some (.int k), o9], [(.int k)])) (w1 := w) rfl rfl ?_
    refine aw_step (f1 := (57, [some (.ref 65), some (.int bo), some (.int f), some (.int t), some (.int n), some (.int pa), some (.long y), none, some (.int k), o9], [(.int n), (.int k)])) (w1 := w) rfl rfl ?_
    refine s_ic 74 60 rfl rfl rfl (fun (h1 : n.toInt ≤ k.toInt) => ?_) (fun (h1 : ¬ (n.toInt ≤ k.toInt)) => ?_)
    · --
      have pp := p840 p2 (by omega)
      refine aw_step (f1 := (75, [some (.ref 65), some (.int bo), some (.int f), some (.int t), some (.int n), some (.int pa), some (.long y), none, some (.int k), o9], [(.ref 65)])) (w1 := w) rfl rfl ?_
      refine aw_step (f1 := (76, [some (.ref 65), some (.int bo), some (.int f), some (.int t), some (.int n), some (.int pa), some (.long y), none, some (.int k), o9], [(.int f), (.ref 65)])) (w1 := w) rfl rfl ?_
      refine aw_step (f1 := (78, [some (.ref 65), some (.int bo), some (.int f), some (.int t), some (.int n), some (.int pa), some (.long y), none, some (.int k), o9], [(.int n), (.int f), (.ref 65)])) (w1 := w) rfl rfl ?_
      refine aw_step (f1 := (80, [some (.ref 65), some (.int bo), some (.int f), some (.int t), some (.int n), some (.int pa), some (.long y), none, some (.int k), o9], [(.long y), (.int n), (.int f), (.ref 65)])) (w1 := w) rfl rfl ?_
      refine s_cv (z := 170) (p := 65) (as := [(.int f), (.int n), (.long y)]) (st1 := []) J 83 rfl rfl rfl rfl rfl rfl rfl rfl (Nat.le_of_ble_eq_true rfl) (Nat.le_of_ble_eq_true rfl) ((ok_v (as := [.ref 65, .int f, .int n, .long y]) kg50 (by decide) J.1 (And.intro (vF_r) (And.intro (vF_i (by omega) (by omega)) (And.intro (vF_i (by omega) (by omega)) (And.intro (vF_tl) (trivial)))))).deep (by omega)) ?_
      rintro _ w2 ⟨rfl, J3c⟩
      have J3 := J.trans J3c
      refine ⟨am_len2 J J3c, ?_⟩
      show aw none _ 171 _ (83, [some (.ref 65), some (.int bo), some (.int f), some (.int t), some (.int n), some (.int pa), some (.long y), none, some (.int k), o9], []) w2
      refine aw_step (f1 := (85, [some (.ref 65), some (.int bo), some (.int f), some (.int t), some (.int n), some (.int pa), some (.long y), none, some (.int k), o9], [(.long y)])) (w1 := w2) rfl rfl ?_
      refine aw_step (f1 := (86, [some (.ref 65), some (.int bo), some (.int f), some (.int t), some (.int n), some (.int pa), some (.long y), none, some (.int k), o9], [(.ref 65), (.long y)])) (w1 := w2) rfl rfl ?_
      refine s_gr 84 J3 89 rfl rfl rfl rfl rfl rfl ?_
      refine aw_step (f1 := (90, [some (.ref 65), some (.int bo), some (.int f), some (.int t), some (.int n), some (.int pa), some (.long y), none, some (.int k), o9], [(.int t), (.ref 84), (.long y)])) (w1 := w2) rfl rfl ?_
      refine s_la J3 91 rfl rfl rfl (by omega) (by omega) fun y4 y4a y4b y4f => ?_
      refine s_cs (z := 169) (as := [(.long y), (.long y4)]) (st1 := []) 94 rfl rfl rfl rfl rfl rfl (Nat.le_of_ble_eq_true rfl) (Nat.le_of_ble_eq_true rfl) (Nat.le_of_ble_eq_true rfl) (q_common y y4 (by omega)) ?_
      rintro _ _ ⟨rfl, y5, rfl, y5t⟩
      refine ⟨rfl, ?_⟩
      show aw none _ 171 _ (94, [some (.ref 65), some (.int bo), some (.int f), some (.int t), some (.int n), some (.int pa), some (.long y), none, some (.int k), o9], [(.long y5)]) w2
      refine aw_step (f1 := (96, [some (.ref 65), some (.int bo), some (.int f), some (.int t), some (.int n), some (.int pa), some (.long y), none, some (.long y5), none], [])) (w1 := w2) rfl rfl ?_
      refine aw_step (f1 := (98, [some (.ref 65), some (.int bo), some (.int f), some (.int t), some (.int n), some (.int pa), some (.long y), none, some (.long y5), none], [(.int pa)])) (w1 := w2) rfl rfl ?_
      refine s_if 113 101 rfl rfl rfl (fun (h6 : ¬ pa.toInt = 0) => ?_) (fun (h6 : ¬ (¬ pa.toInt = 0)) => ?_)
      · --
        refine aw_step (f1 := (115, [some (.ref 65), some (.int bo), some (.int f), some (.int t), some (.int n), some (.int pa), some (.long y), none, some (.long y5), none], [(.long y)])) (w1 := w2) rfl rfl ?_
        refine aw_step (f1 := (117, [some (.ref 65), some (.int bo), some (.int f), some (.int t), some (.int n), some (.int pa), some (.long y), none, some (.long y5), none], [(.long y5), (.long y)])) (w1 := w2) rfl rfl ?_
        refine s_dvl (f := fun x y => x / y) 118 rfl rfl (by omega) fun y7 e8 => ?_
        have e8 : y7 = y / y5 := e8
        refine aw_ret (v := some (.long y7)) rfl rfl ?_
        exact ⟨J3, y7, rfl⟩
      · --
        refine aw_step (f1 := (102, [some (.ref 65), some (.int bo), some (.int f), some (.int t), some (.int n), some (.int pa), some (.long y), none, some (.long y5), none], [(.ref 65)])) (w1 := w2) rfl rfl ?_
        refine s_gr 84 J3 105 rfl rfl rfl rfl rfl rfl ?_
        refine aw_step (f1 := (106, [some (.ref 65), some (.int bo), some (.int f), some (.int t), some (.int n), some (.int pa), some (.long y), none, some (.long y5), none], [(.int t), (.ref 84)])) (w1 := w2) rfl rfl ?_
        refine s_la J3 107 rfl rfl rfl (by omega) (by omega) fun y9 y9a y9b y9f => ?_
        refine aw_step (f1 := (109, [some (.ref 65), some (.int bo), some (.int f), some (.int t), some (.int n), some (.int pa), some (.long y), none, some (.long y5), none], [(.long y5), (.long y9)])) (w1 := w2) rfl rfl ?_
        refine s_dvl (f := fun x y => x / y) 110 rfl rfl (by omega) fun y10 e11 => ?_
        have e11 : y10 = y9 / y5 := e11
        refine aw_step (f1 := (118, [some (.ref 65), some (.int bo), some (.int f), some (.int t), some (.int n), some (.int pa), some (.long y), none, some (.long y5), none], [(.long y10)])) (w1 := w2) rfl rfl ?_
        refine aw_ret (v := some (.long y10)) rfl rfl ?_
        exact ⟨J3, y10, rfl⟩
    · --
      refine aw_step (f1 := (62, [some (.ref 65), some (.int bo), some (.int f), some (.int t), some (.int n), some (.int pa), some (.long y), none, some (.int k), o9], [(.long y)])) (w1 := w) rfl rfl ?_
      refine s_l (pc1 := 65) (ls1 := [some (.ref 65), some (.int bo), some (.int f), some (.int t), some (.int n), some (.int pa), some (.long y), none, some (.int k), o9]) (st1 := [(.long y)]) rfl rfl fun y12 e13 => ?_
      have e13t : y12.toInt = 840 := by rw [e13]; rfl
      have pp := p840 p2 (by omega)
      refine s_l (pc1 := 66) (ls1 := [some (.ref 65), some (.int bo), some (.int f), some (.int t), some (.int n), some (.int pa), some (.long y), none, some (.int k), o9]) (st1 := []) rfl rfl fun y14 e15 => ?_
      have e15 : y14 = y * y12 := e15
      refine aw_step (f1 := (68, [some (.ref 65), some (.int bo), some (.int f), some (.int t), some (.int n), some (.int pa), some (.long y14), none, some (.int k), o9], [])) (w1 := w) rfl rfl ?_
      refine aw_step (f1 := (71, [some (.ref 65), some (.int bo), some (.int f), some (.int t), some (.int n), some (.int pa), some (.long y14), none, some (.int (k + Int32.ofInt 1)), o9], [])) (w1 := w) rfl rfl ?_
      obtain ⟨x16, x16e⟩ : ∃ z, z = (k + Int32.ofInt 1) := ⟨_, rfl⟩
      have x16t : x16.toInt = k.toInt + (1) := by rw [x16e]; exact n_add (y := Int32.ofInt (1)) (by show _ ≤ _ + (1 : Int); omega) (by show _ + (1 : Int) ≤ _; omega)
      rw [← x16e]
      refine aw_step (f1 := (53, [some (.ref 65), some (.int bo), some (.int f), some (.int t), some (.int n), some (.int pa), some (.long y14), none, some (.int x16), o9], [])) (w1 := w) rfl rfl ?_
      exact ih y14 x16 (by omega) (by omega) (by omega) (by rw [e15, p840s p2 x16t, l_mul (by rw [e13t, Y]; omega) (by rw [e13t, Y]; omega), e13t, Y])
theorem q_chance {d : Nat} {w : am_W} (bo f t n pa : Int32) (I : ab_inv ab_TT ab_sets w) : aw none (d + 6) 171 (QSl w) (0, am_entry 171 [.ref 65, .int bo, .int f, .int t, .int n, .int pa], []) w := by
  have J : ab_J ab_TT ab_sets ab_WR w w := ⟨I, ab_fr.rf⟩
  have sz := szM_in I
  show aw none (d + 6) 171 _ (0, [some (.ref 65), some (.int bo), some (.int f), some (.int t), some (.int n), some (.int pa), none, none, none, none], []) w
  refine aw_step (f1 := (1, [some (.ref 65), some (.int bo), some (.int f), some (.int t), some (.int n), some (.int pa), none, none, none, none], [(.ref 65)])) (w1 := w) rfl rfl ?_
  refine aw_step (f1 := (2, [some (.ref 65), some (.int bo), some (.int f), some (.int t), some (.int n), some (.int pa), none, none, none, none], [(.int bo), (.ref 65)])) (w1 := w) rfl rfl ?_
  refine aw_step (f1 := (3, [some (.ref 65), some (.int bo), some (.int f), some (.int t), some (.int n), some (.int pa), none, none, none, none], [(.int f), (.int bo), (.ref 65)])) (w1 := w) rfl rfl ?_
  refine aw_step (f1 := (4, [some (.ref 65), some (.int bo), some (.int f), some (.int t), some (.int n), some (.int pa), none, none, none, none], [(.int t), (.int f), (.int bo), (.ref 65)])) (w1 := w) rfl rfl ?_
  refine s_cv (z := 143) (p := 65) (as := [(.int bo), (.int f), (.int t)]) (st1 := []) J 7 rfl rfl rfl rfl rfl rfl rfl rfl (Nat.le_of_ble_eq_true rfl) (Nat.le_of_ble_eq_true rfl) (q_isAsked bo f t J.1) ?_
  rintro _ _ ⟨rfl, x1, rfl, x1t⟩
  refine ⟨rfl, ?_⟩
  show aw none _ 171 _ (7, [some (.ref 65), some (.int bo), some (.int f), some (.int t), some (.int n), some (.int pa), none, none, none, none], [(.int x1)]) w
  have x1s := szM_in J.1
  refine s_if 14 10 rfl rfl rfl (fun (h2 : ¬ x1.toInt = 0) => ?_) (fun (h2 : ¬ (¬ x1.toInt = 0)) => ?_)
  · --
    refine aw_step (f1 := (16, [some (.ref 65), some (.int bo), some (.int f), some (.int t), some (.int n), some (.int pa), none, none, none, none], [(.int n)])) (w1 := w) rfl rfl ?_
    refine s_l (pc1 := 17) (ls1 := [some (.ref 65), some (.int bo), some (.int f), some (.int t), some (.int n), some (.int pa), none, none, none, none]) (st1 := []) rfl rfl fun y3 e4 => ?_
    have e4t : y3.toInt = n.toInt := by rw [e4]; exact Int32.toInt_toInt64 n
    refine s_l (pc1 := 18) (ls1 := [some (.ref 65), some (.int bo), some (.int f), some (.int t), some (.int n), some (.int pa), none, none, none, none]) (st1 := [(.long y3)]) rfl rfl fun y5 e6 => ?_
    have e6t : y5.toInt = 0 := by rw [e6]; rfl
    refine s_l (pc1 := 21) (ls1 := [some (.ref 65), some (.int bo), some (.int f), some (.int t), some (.int n), some (.int pa), none, none, none, none]) (st1 := [(.long y5), (.long y3)]) rfl rfl fun y7 e8 => ?_
    have e8t : y7.toInt = 5 := by rw [e8]; rfl
    refine s_cs (z := 108) (as := [(.long y3), (.long y5), (.long y7)]) (st1 := []) 24 rfl rfl rfl rfl rfl rfl (Nat.le_of_ble_eq_true rfl) (Nat.le_of_ble_eq_true rfl) (Nat.le_of_ble_eq_true rfl) (q_in2 y3 y5 y7) ?_
    rintro _ _ ⟨rfl, x9, rfl, x9t⟩
    refine ⟨rfl, ?_⟩
    show aw none _ 171 _ (24, [some (.ref 65), some (.int bo), some (.int f), some (.int t), some (.int n), some (.int pa), none, none, none, none], [(.int x9)]) w
    refine s_if 38 27 rfl rfl rfl (fun (h10 : x9.toInt = 0) => ?_) (fun (h10 : ¬ (x9.toInt = 0)) => ?_)
    · --
      refine s_l (pc1 := 41) (ls1 := [some (.ref 65), some (.int bo), some (.int f), some (.int t), some (.int n), some (.int pa), none, none, none, none]) (st1 := []) rfl rfl fun y11 e12 => ?_
      have e12t : y11.toInt = -1000000000000000002 := by rw [e12]; rfl
      refine aw_ret (v := some (.long y11)) rfl rfl ?_
      exact ⟨J, y11, rfl⟩
    · --
      refine aw_step (f1 := (29, [some (.ref 65), some (.int bo), some (.int f), some (.int t), some (.int n), some (.int pa), none, none, none, none], [(.int pa)])) (w1 := w) rfl rfl ?_
      refine s_l (pc1 := 30) (ls1 := [some (.ref 65), some (.int bo), some (.int f), some (.int t), some (.int n), some (.int pa), none, none, none, none]) (st1 := []) rfl rfl fun y13 e14 => ?_
      have e14t : y13.toInt = pa.toInt := by rw [e14]; exact Int32.toInt_toInt64 pa
      refine s_l (pc1 := 31) (ls1 := [some (.ref 65), some (.int bo), some (.int f), some (.int t), some (.int n), some (.int pa), none, none, none, none]) (st1 := [(.long y13)]) rfl rfl fun y15 e16 => ?_
      have e16t : y15.toInt = 0 := by rw [e16]; rfl
      refine s_l (pc1 := 32) (ls1 := [some (.ref 65), some (.int bo), some (.int f), some (.int t), some (.int n), some (.int pa), none, none, none, none]) (st1 := [(.long y15), (.long y13)]) rfl rfl fun y17 e18 => ?_
      have e18t : y17.toInt = 1 := by rw [e18]; rfl
      refine s_cs (z := 108) (as := [(.long y13), (.long y15), (.long y17)]) (st1 := []) 35 rfl rfl rfl rfl rfl rfl (Nat.le_of_ble_eq_true rfl) (Nat.le_of_ble_eq_true rfl) (Nat.le_of_ble_eq_true rfl) (q_in2 y13 y15 y17) ?_
      rintro _ _ ⟨rfl, x19, rfl, x19t⟩
      refine ⟨rfl, ?_⟩
      show aw none _ 171 _ (35, [some (.ref 65), some (.int bo), some (.int f), some (.int t), some (.int n), some (.int pa), none, none, none, none], [(.int x19)]) w
      refine s_if 42 38 rfl rfl rfl (fun (h20 : ¬ x19.toInt = 0) => ?_) (fun (h20 : ¬ (¬ x19.toInt = 0)) => ?_)
      · --
        refine aw_step (f1 := (43, [some (.ref 65), some (.int bo), some (.int f), some (.int t), some (.int n), some (.int pa), none, none, none, none], [(.ref 65)])) (w1 := w) rfl rfl ?_
        refine aw_step (f1 := (44, [some (.ref 65), some (.int bo), some (.int f), some (.int t), some (.int n), some (.int pa), none, none, none, none], [(.int bo), (.ref 65)])) (w1 := w) rfl rfl ?_
        refine s_cv (z := 133) (p := 65) (as := [(.int bo)]) (st1 := []) J 47 rfl rfl rfl rfl rfl rfl rfl rfl (Nat.le_of_ble_eq_true rfl) (Nat.le_of_ble_eq_true rfl) (q_putOn bo ⟨by omega, by omega⟩ J.1) ?_
        rintro _ w21 ⟨rfl, J22c, w21o, w21p⟩
        have J22 := J.trans J22c
        refine ⟨am_len2 J J22c, ?_⟩
        show aw none _ 171 _ (47, [some (.ref 65), some (.int bo), some (.int f), some (.int t), some (.int n), some (.int pa), none, none, none, none], []) w21
        refine s_l (pc1 := 48) (ls1 := [some (.ref 65), some (.int bo), some (.int f), some (.int t), some (.int n), some (.int pa), none, none, none, none]) (st1 := []) rfl rfl fun y23 e24 => ?_
        have e24t : y23.toInt = 1 := by rw [e24]; rfl
        refine aw_step (f1 := (50, [some (.ref 65), some (.int bo), some (.int f), some (.int t), some (.int n), some (.int pa), some (.long y23), none, none, none], [])) (w1 := w21) rfl rfl ?_
        refine s_i (pc1 := 51) (ls1 := [some (.ref 65), some (.int bo), some (.int f), some (.int t), some (.int n), some (.int pa), some (.long y23), none, none, none]) (st1 := []) rfl rfl fun x25 e26 => ?_
        have e26t : x25.toInt = 0 := by rw [e26]; rfl
        refine aw_step (f1 := (53, [some (.ref 65), some (.int bo), some (.int f), some (.int t), some (.int n), some (.int pa), some (.long y23), none, some (.int x25), none], [])) (w1 := w21) rfl rfl ?_
        have zo := w21o.sz (by decide)
        exact q_chanceL J22 bo f t n pa ⟨by omega, by omega⟩ ⟨by omega, by omega⟩ none ⟨by omega, by omega⟩ 6 y23 x25 (by omega) (by omega) (by omega) (by rw [e24t, e26t]; rfl)
      · --
        refine s_l (pc1 := 41) (ls1 := [some (.ref 65), some (.int bo), some (.int f), some (.int t), some (.int n), some (.int pa), none, none, none, none]) (st1 := []) rfl rfl fun y27 e28 => ?_
        have e28t : y27.toInt = -1000000000000000002 := by rw [e28]; rfl
        refine aw_ret (v := some (.long y27)) rfl rfl ?_
        exact ⟨J, y27, rfl⟩
  · --
    refine s_l (pc1 := 13) (ls1 := [some (.ref 65), some (.int bo), some (.int f), some (.int t), some (.int n), some (.int pa), none, none, none, none]) (st1 := []) rfl rfl fun y29 e30 => ?_
    have e30t : y29.toInt = -1000000000000000001 := by rw [e30]; rfl
    refine aw_ret (v := some (.long y29)) rfl rfl ?_
    exact ⟨J, y29, rfl⟩
theorem q_leA {d : Nat} {Q : Option Value → am_W → Prop} {w00 : am_W} {z : Int} (s : Int64) (o4 : Option Value) (hs : cnt (n64 s) 64 ≤ 5) (K : ∀ (w : am_W) (c : Int32), ab_J ab_TT ab_sets ab_WR w00 w → 0 ≤ c.toInt → aw none (d + 2) 153 Q (49, [some (.ref 65), some (.long s), none, some (.int c), o4], []) w) : ∀ (m : Nat) (w : am_W) (c : Int32), (z - c.toInt).toNat < m → 0 ≤ c.toInt → c.toInt ≤ z → ab_J ab_TT ab_sets ab_WR w00 w → szM w = z → fI w 65 28 = cnt (n64 s) c.toInt.toNat → aw none (d + 2) 153 Q (7, [some (.ref 65), some (.long s), none, some (.int c), o4], []) w := by
  intro m
  induction m with
  | zero => intro w c p; omega
  | succ m ih =>
    intro w c p1 p2 p3 J zz E
    have sz := szM_in J.1
    refine aw_step (f1 := (8, [some (.ref 65), some (.long s), none, some (.int c), o4], [(.int c)])) (w1 := w) rfl rfl ?_
    refine aw_step (f1 := (9, [some (.ref 65), some (.long s), none, some (.int c), o4], [(.ref 65), (.int c)])) (w1 := w) rfl rfl ?_
    refine s_cv (z := 113) (p := 65) (as := []) (st1 := [(.int c)]) J 12 rfl rfl rfl rfl rfl rfl rfl rfl (Nat.le_of_ble_eq_true rfl) (Nat.le_of_ble_eq_true rfl) (q_cells J.1) ?_
    rintro _ _ ⟨rfl, x1, rfl, x1t⟩
    refine ⟨rfl, ?_⟩
    show aw none _ 153 _ (12, [some (.ref 65), some (.long s), none, some (.int c), o4], [(.int x1), (.int c)]) w
    have x1s := szM_in J.1
    refine s_ic 49 15 rfl rfl rfl (fun (h2 : x1.toInt ≤ c.toInt) => ?_) (fun (h2 : ¬ (x1.toInt ≤ c.toInt)) => ?_)
    · --
      exact K w c J (by omega)
    · --
      refine aw_step (f1 := (16, [some (.ref 65), some (.long s), none, some (.int c), o4], [(.long s)])) (w1 := w) rfl rfl ?_
      refine aw_step (f1 := (17, [some (.ref 65), some (.long s), none, some (.int c), o4], [(.int c), (.long s)])) (w1 := w) rfl rfl ?_
      refine s_cs (z := 110) (as := [(.long s), (.int c)]) (st1 := []) 20 rfl rfl rfl rfl rfl rfl (Nat.le_of_ble_eq_true rfl) (Nat.le_of_ble_eq_true rfl) (Nat.le_of_ble_eq_true rfl) (q_has s c (by omega) (by omega)) ?_
      rintro _ _ ⟨rfl, x3, rfl, x3t⟩
      refine ⟨rfl, ?_⟩
      show aw none _ 153 _ (20, [some (.ref 65), some (.long s), none, some (.int c), o4], [(.int x3)]) w
      have x3l := bt_le (n64 s) c.toInt.toNat
      refine s_if 43 23 rfl rfl rfl (fun (h4 : x3.toInt = 0) => ?_) (fun (h4 : ¬ (x3.toInt = 0)) => ?_)
      · --
        refine aw_step (f1 := (46, [some (.ref 65), some (.long s), none, some (.int (c + Int32.ofInt 1)), o4], [])) (w1 := w) rfl rfl ?_
        obtain ⟨x5, x5e⟩ : ∃ z, z = (c + Int32.ofInt 1) := ⟨_, rfl⟩
        have x5t : x5.toInt = c.toInt + (1) := by rw [x5e]; exact n_add (y := Int32.ofInt (1)) (by show _ ≤ _ + (1 : Int); omega) (by show _ + (1 : Int) ≤ _; omega)
        rw [← x5e]
        refine aw_step (f1 := (7, [some (.ref 65), some (.long s), none, some (.int x5), o4], [])) (w1 := w) rfl rfl ?_
        have bs := bt_s (n64 s) c.toInt.toNat
        rw [show c.toInt.toNat + 1 = x5.toInt.toNat by omega] at bs
        exact ih w x5 (by omega) (by omega) (by omega) J zz (by omega)
      · --
        refine aw_step (f1 := (24, [some (.ref 65), some (.long s), none, some (.int c), o4], [(.ref 65)])) (w1 := w) rfl rfl ?_
        refine s_gr 79 J 27 rfl rfl rfl rfl rfl rfl ?_
        refine aw_step (f1 := (28, [some (.ref 65), some (.long s), none, some (.int c), o4], [(.ref 65), (.ref 79)])) (w1 := w) rfl rfl ?_
        refine s_gi J 31 rfl rfl rfl rfl rfl rfl fun x6 x6a x6b x6f => ?_
        have qx6 := fI_of x6f
        refine aw_step (f1 := (32, [some (.ref 65), some (.long s), none, some (.int c), o4], [(.int c), (.int x6), (.ref 79)])) (w1 := w) rfl rfl ?_
        have bsx := bt_s (n64 s) c.toInt.toNat
        have cm := cnt_mono (n64 s) (show c.toInt.toNat + 1 ≤ 64 by omega)
        refine s_is J 33 rfl rfl rfl rfl (by omega) (by omega) (by omega) (by omega) fun w7 J8 w7e => ?_
        have so := rI_st J.1 (p := 79) (j := x6.toInt.toNat) rfl (by omega) w7e
        have sz1 := so.1.sz (by decide)
        have sf1 := so.1.fIe (p := 65) (k := 28) (by decide)
        refine aw_step (f1 := (34, [some (.ref 65), some (.long s), none, some (.int c), o4], [(.ref 65)])) (w1 := w7) rfl rfl ?_
        refine aw_step (f1 := (35, [some (.ref 65), some (.long s), none, some (.int c), o4], [(.ref 65), (.ref 65)])) (w1 := w7) rfl rfl ?_
        refine s_gi J8 38 rfl rfl rfl rfl rfl rfl fun x9 x9a x9b x9f => ?_
        have qx9 := fI_of x9f
        refine s_i (pc1 := 39) (ls1 := [some (.ref 65), some (.long s), none, some (.int c), o4]) (st1 := [(.int x9), (.ref 65)]) rfl rfl fun x10 e11 => ?_
        have e11t : x10.toInt = 1 := by rw [e11]; rfl
        refine s_i (pc1 := 40) (ls1 := [some (.ref 65), some (.long s), none, some (.int c), o4]) (st1 := [(.ref 65)]) rfl rfl fun x12 e13 => ?_
        have e13 : x12 = x9 + x10 := e13
        have e13t : x12.toInt = x9.toInt + x10.toInt := by rw [e13]; exact n_add (by omega) (by omega)
        refine s_pi J8 43 rfl rfl rfl rfl rfl rfl rfl (by omega) (by omega) fun w14 J15 w14e => ?_
        refine aw_step (f1 := (46, [some (.ref 65), some (.long s), none, some (.int (c + Int32.ofInt 1)), o4], [])) (w1 := w14) rfl rfl ?_
        obtain ⟨x16, x16e⟩ : ∃ z, z = (c + Int32.ofInt 1) := ⟨_, rfl⟩
        have x16t : x16.toInt = c.toInt + (1) := by rw [x16e]; exact n_add (y := Int32.ofInt (1)) (by show _ ≤ _ + (1 : Int); omega) (by show _ + (1 : Int) ≤ _; omega)
        rw [← x16e]
        refine aw_step (f1 := (7, [some (.ref 65), some (.long s), none, some (.int x16), o4], [])) (w1 := w14) rfl rfl ?_
        have bs := bt_s (n64 s) c.toInt.toNat
        rw [show c.toInt.toNat + 1 = x16.toInt.toNat by omega] at bs
        have fs := fv_st J8.1 (p := 65) (kf := 28) rfl (by decide) w14e
        have s1 : szM w14 = szM w7 := szM_eq (fs.2.2 0 (by decide)) (fs.2.2 1 (by decide))
        exact ih w14 x16 (by omega) (by omega) (by omega) J15 (by omega) (by rw [fI_of fs.2.1]; omega)
theorem q_leB {d : Nat} {Q : Option Value → am_W → Prop} {w00 : am_W} {e : Int} (he : 0 ≤ e ∧ e ≤ 5) (s : Int64) (a : Int32) (ha : 0 ≤ a.toInt ∧ a.toInt ≤ e) (K : ∀ (w : am_W) (b : Int32), ab_J ab_TT ab_sets ab_WR w00 w → fI w 65 28 = e → aw none (d + 2) 153 Q (124, [some (.ref 65), some (.long s), none, some (.int a), some (.int b)], []) w) : ∀ (m : Nat) (w : am_W) (b : Int32), (e + 1 - b.toInt).toNat < m → 0 ≤ b.toInt → b.toInt ≤ e + 1 → ab_J ab_TT ab_sets ab_WR w00 w → fI w 65 28 = e → aw none (d + 2) 153 Q (85, [some (.ref 65), some (.long s), none, some (.int a), some (.int b)], []) w := by
  intro m
  induction m with
  | zero => intro w b p; omega
  | succ m ih =>
    intro w b p1 p2 p3 J E
    refine aw_step (f1 := (87, [some (.ref 65), some (.long s), none, some (.int a), some (.int b)], [(.int b)])) (w1 := w) rfl rfl ?_
    refine aw_step (f1 := (88, [some (.ref 65), some (.long s), none, some (.int a), some (.int b)], [(.ref 65), (.int b)])) (w1 := w) rfl rfl ?_
    refine s_gi J 91 rfl rfl rfl rfl rfl rfl fun x1 x1a x1b x1f => ?_
    have qx1 := fI_of x1f
    refine s_ic 124 94 rfl rfl rfl (fun (h2 : x1.toInt < b.toInt) => ?_) (fun (h2 : ¬ (x1.toInt < b.toInt)) => ?_)
    · --
      exact K w b J E
    · --
      refine aw_step (f1 := (95, [some (.ref 65), some (.long s), none, some (.int a), some (.int b)], [(.ref 65)])) (w1 := w) rfl rfl ?_
      refine s_gr 80 J 98 rfl rfl rfl rfl rfl rfl ?_
      refine s_i (pc1 := 100) (ls1 := [some (.ref 65), some (.long s), none, some (.int a), some (.int b)]) (st1 := [(.ref 80)]) rfl rfl fun x3 e4 => ?_
      have e4t : x3.toInt = 6 := by rw [e4]; rfl
      refine aw_step (f1 := (101, [some (.ref 65), some (.long s), none, some (.int a), some (.int b)], [(.int a), (.int x3), (.ref 80)])) (w1 := w) rfl rfl ?_
      refine s_i (pc1 := 102) (ls1 := [some (.ref 65), some (.long s), none, some (.int a), some (.int b)]) (st1 := [(.ref 80)]) rfl rfl fun x5 e6 => ?_
      have e6 : x5 = x3 * a := e6
      have e6t : x5.toInt = 6 * a.toInt := by rw [e6, n_mul (by rw [e4t]; omega) (by rw [e4t]; omega), e4t]
      refine aw_step (f1 := (104, [some (.ref 65), some (.long s), none, some (.int a), some (.int b)], [(.int b), (.int x5), (.ref 80)])) (w1 := w) rfl rfl ?_
      refine s_i (pc1 := 105) (ls1 := [some (.ref 65), some (.long s), none, some (.int a), some (.int b)]) (st1 := [(.ref 80)]) rfl rfl fun x7 e8 => ?_
      have e8 : x7 = x5 + b := e8
      have e8t : x7.toInt = x5.toInt + b.toInt := by rw [e8]; exact n_add (by omega) (by omega)
      --
      refine aw_step (f1 := (106, [some (.ref 65), some (.long s), none, some (.int a), some (.int b)], [(.ref 65), (.int x7), (.ref 80)])) (w1 := w) rfl rfl ?_
      refine s_gr 77 J 109 rfl rfl rfl rfl rfl rfl ?_
      refine aw_step (f1 := (110, [some (.ref 65), some (.long s), none, some (.int a), some (.int b)], [(.ref 65), (.ref 77), (.int x7), (.ref 80)])) (w1 := w) rfl rfl ?_
      refine s_gr 79 J 113 rfl rfl rfl rfl rfl rfl ?_
      refine aw_step (f1 := (115, [some (.ref 65), some (.long s), none, some (.int a), some (.int b)], [(.int b), (.ref 79), (.ref 77), (.int x7), (.ref 80)])) (w1 := w) rfl rfl ?_
      refine s_ia J 116 rfl rfl rfl rfl (by omega) (by omega) fun x9 x9a x9b x9f => ?_
      refine s_ia J 117 rfl rfl rfl rfl (by omega) (by omega) fun x10 x10a x10b x10f => ?_
      refine s_is J 118 rfl rfl rfl rfl (by omega) (by omega) (by omega) (by omega) fun w11 J12 w11e => ?_
      refine aw_step (f1 := (121, [some (.ref 65), some (.long s), none, some (.int a), some (.int (b + Int32.ofInt 1))], [])) (w1 := w11) rfl rfl ?_
      obtain ⟨x13, x13e⟩ : ∃ z, z = (b + Int32.ofInt 1) := ⟨_, rfl⟩
      have x13t : x13.toInt = b.toInt + (1) := by rw [x13e]; exact n_add (y := Int32.ofInt (1)) (by show _ ≤ _ + (1 : Int); omega) (by show _ + (1 : Int) ≤ _; omega)
      rw [← x13e]
      refine aw_step (f1 := (85, [some (.ref 65), some (.long s), none, some (.int a), some (.int x13)], [])) (w1 := w11) rfl rfl ?_
      have so := rI_st J.1 (p := 80) (j := x7.toInt.toNat) rfl (by omega) w11e
      exact ih w11 x13 (by omega) (by omega) (by omega) J12 (by rw [so.1.fIe (by decide)]; exact E)
theorem q_leC {d : Nat} {w00 : am_W} {e : Int} (he : 0 ≤ e ∧ e ≤ 5) (s : Int64) : ∀ (m : Nat) (w : am_W) (a : Int32) (o4 : Option Value), (e + 1 - a.toInt).toNat < m → 0 ≤ a.toInt → a.toInt ≤ e + 1 → ab_J ab_TT ab_sets ab_WR w00 w → fI w 65 28 = e → aw none (d + 2) 153 (fun r w1 => r = none ∧ ab_J ab_TT ab_sets ab_WR w00 w1) (64, [some (.ref 65), some (.long s), none, some (.int a), o4], []) w := by
  intro m
  induction m with
  | zero => intro w a o4 p; omega
  | succ m ih =>
    intro w a o4 p1 p2 p3 J E
    refine aw_step (f1 := (65, [some (.ref 65), some (.long s), none, some (.int a), o4], [(.int a)])) (w1 := w) rfl rfl ?_
    refine aw_step (f1 := (66, [some (.ref 65), some (.long s), none, some (.int a), o4], [(.ref 65), (.int a)])) (w1 := w) rfl rfl ?_
    refine s_gi J 69 rfl rfl rfl rfl rfl rfl fun x1 x1a x1b x1f => ?_
    have qx1 := fI_of x1f
    refine s_ic 130 72 rfl rfl rfl (fun (h2 : x1.toInt < a.toInt) => ?_) (fun (h2 : ¬ (x1.toInt < a.toInt)) => ?_)
    · --
      refine aw_ret (v := none) rfl rfl ?_
      exact ⟨rfl, J⟩
    · --
      refine aw_step (f1 := (73, [some (.ref 65), some (.long s), none, some (.int a), o4], [(.ref 65)])) (w1 := w) rfl rfl ?_
      refine aw_step (f1 := (74, [some (.ref 65), some (.long s), none, some (.int a), o4], [(.ref 65), (.ref 65)])) (w1 := w) rfl rfl ?_
      refine s_gr 79 J 77 rfl rfl rfl rfl rfl rfl ?_
      refine aw_step (f1 := (78, [some (.ref 65), some (.long s), none, some (.int a), o4], [(.int a), (.ref 79), (.ref 65)])) (w1 := w) rfl rfl ?_
      refine s_ia J 79 rfl rfl rfl rfl (by omega) (by omega) fun x3 x3a x3b x3f => ?_
      refine s_cv (z := 142) (p := 65) (as := [(.int x3)]) (st1 := []) J 82 rfl rfl rfl rfl rfl rfl rfl rfl (Nat.le_of_ble_eq_true rfl) (Nat.le_of_ble_eq_true rfl) (q_findFar x3 ⟨by omega, by omega⟩ J.1) ?_
      rintro _ w4 ⟨rfl, J5c, w4o, w4p⟩
      have J5 := J.trans J5c
      refine ⟨am_len2 J J5c, ?_⟩
      show aw none _ 153 _ (82, [some (.ref 65), some (.long s), none, some (.int a), o4], []) w4
      refine s_i (pc1 := 83) (ls1 := [some (.ref 65), some (.long s), none, some (.int a), o4]) (st1 := []) rfl rfl fun x6 e7 => ?_
      have e7t : x6.toInt = 0 := by rw [e7]; rfl
      refine aw_step (f1 := (85, [some (.ref 65), some (.long s), none, some (.int a), some (.int x6)], [])) (w1 := w4) rfl rfl ?_
      refine q_leB (e := e) ⟨by omega, by omega⟩ s a ⟨by omega, by omega⟩ (fun wq bq Jq Eq => ?_) 7 w4 x6 (by omega) (by omega) (by omega) J5 (by rw [w4o.fIe (by decide)]; exact E)
      refine aw_step (f1 := (127, [some (.ref 65), some (.long s), none, some (.int (a + Int32.ofInt 1)), some (.int bq)], [])) (w1 := wq) rfl rfl ?_
      obtain ⟨zx1, zx1e⟩ : ∃ z, z = (a + Int32.ofInt 1) := ⟨_, rfl⟩
      have zx1t : zx1.toInt = a.toInt + (1) := by rw [zx1e]; exact n_add (y := Int32.ofInt (1)) (by show _ ≤ _ + (1 : Int); omega) (by show _ + (1 : Int) ≤ _; omega)
      rw [← zx1e]
      refine aw_step (f1 := (64, [some (.ref 65), some (.long s), none, some (.int zx1), some (.int bq)], [])) (w1 := wq) rfl rfl ?_
      exact ih wq zx1 _ (by omega) (by omega) (by omega) Jq Eq
theorem q_layErrands {d : Nat} {w : am_W} (s : Int64) (hs : cnt (n64 s) 64 ≤ 5) (I : ab_inv ab_TT ab_sets w) : aw none (d + 2) 153 (fun r w1 => r = none ∧ ab_J ab_TT ab_sets ab_WR w w1) (0, am_entry 153 [.ref 65, .long s], []) w := by
  have J : ab_J ab_TT ab_sets ab_WR w w := ⟨I, ab_fr.rf⟩
  have sz := szM_in I
  show aw none (d + 2) 153 _ (0, [some (.ref 65), some (.long s), none, none, none], []) w
  refine aw_step (f1 := (1, [some (.ref 65), some (.long s), none, none, none], [(.ref 65)])) (w1 := w) rfl rfl ?_
  refine s_i (pc1 := 2) (ls1 := [some (.ref 65), some (.long s), none, none, none]) (st1 := [(.ref 65)]) rfl rfl fun x1 e2 => ?_
  have e2t : x1.toInt = 0 := by rw [e2]; rfl
  refine s_pi J 5 rfl rfl rfl rfl rfl rfl rfl (by omega) (by omega) fun w3 J4 w3e => ?_
  refine s_i (pc1 := 6) (ls1 := [some (.ref 65), some (.long s), none, none, none]) (st1 := []) rfl rfl fun x5 e6 => ?_
  have e6t : x5.toInt = 0 := by rw [e6]; rfl
  refine aw_step (f1 := (7, [some (.ref 65), some (.long s), none, some (.int x5), none], [])) (w1 := w3) rfl rfl ?_
  have fs := fv_st J.1 (p := 65) (kf := 28) rfl (by decide) w3e
  have s1 : szM w3 = szM w := szM_eq (fs.2.2 0 (by decide)) (fs.2.2 1 (by decide))
  refine q_leA (z := szM w) s _ hs (fun wq cq Jq cq0 => ?_) 37 w3 x5 (by omega) (by omega) (by omega) J4 (by omega) (by rw [fI_of fs.2.1, e2t, e6t]; rfl)
  refine aw_step (f1 := (50, [some (.ref 65), some (.long s), none, some (.int cq), none], [(.ref 65)])) (w1 := wq) rfl rfl ?_
  refine s_gr 79 Jq 53 rfl rfl rfl rfl rfl rfl ?_
  refine aw_step (f1 := (54, [some (.ref 65), some (.long s), none, some (.int cq), none], [(.ref 65), (.ref 79)])) (w1 := wq) rfl rfl ?_
  refine s_gi Jq 57 rfl rfl rfl rfl rfl rfl fun zx1 zx1a zx1b zx1f => ?_
  refine aw_step (f1 := (58, [some (.ref 65), some (.long s), none, some (.int cq), none], [(.ref 65), (.int zx1), (.ref 79)])) (w1 := wq) rfl rfl ?_
  refine s_gi Jq 61 rfl rfl rfl rfl rfl rfl fun zx2 zx2a zx2b zx2f => ?_
  refine s_is Jq 62 rfl rfl rfl rfl (by omega) (by omega) (by omega) (by omega) fun zw3 zJ4 zw3e => ?_
  refine s_i (pc1 := 63) (ls1 := [some (.ref 65), some (.long s), none, some (.int cq), none]) (st1 := []) rfl rfl fun zx5 ze6 => ?_
  have ze6t : zx5.toInt = 0 := by rw [ze6]; rfl
  refine aw_step (f1 := (64, [some (.ref 65), some (.long s), none, some (.int zx5), none], [])) (w1 := zw3) rfl rfl ?_
  have ei := fI_in (p := 65) (k := 28) zJ4.1 rfl rfl
  exact q_leC (e := fI zw3 65 28) ⟨by omega, by omega⟩ s 7 zw3 zx5 _ (by omega) (by omega) (by omega) zJ4 rfl
