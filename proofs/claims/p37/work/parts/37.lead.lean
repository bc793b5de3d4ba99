/-! ===== land, squares, leads ===== -/
theorem q_in2 {d : Nat} {w : am_W} (x a b : Int64) : aw none d 108 (fun r w1 => w = w1 ∧ ∃ z : Int32, r = some (.int z) ∧ ((z.toInt = 1 ∧ a.toInt ≤ x.toInt ∧ x.toInt ≤ b.toInt) ∨ (z.toInt = 0 ∧ (x.toInt < a.toInt ∨ b.toInt < x.toInt)))) (0, am_entry 108 [.long x, .long a, .long b], []) w := by
  refine (q_in x a b).mono ?_
  rintro r w1 ⟨e, z, f, h⟩
  refine ⟨e, z, f, ?_⟩
  by_cases q : a.toInt ≤ x.toInt ∧ x.toInt ≤ b.toInt
  · rw [if_pos q] at h; omega
  · rw [if_neg q] at h; omega
theorem sq_b {r : Int} (h1 : -36 ≤ r) (h2 : r ≤ 36) : 0 ≤ r * r ∧ r * r ≤ 1296 := by
  have e : r * r = ((r.natAbs * r.natAbs : Nat) : Int) := Int.natAbs_mul_self.symm
  have : r.natAbs * r.natAbs ≤ 36 * 36 := Nat.mul_le_mul (by omega) (by omega)
  omega
noncomputable def sqM (c a b : Int) : Int := (a / c - b / c) * (a / c - b / c) + (a % c - b % c) * (a % c - b % c)
theorem sqM_c (c a b : Int) : sqM c a b = sqM c b a := by
  unfold sqM
  rw [show a / c - b / c = -(b / c - a / c) by omega, show a % c - b % c = -(b % c - a % c) by omega, Int.neg_mul_neg, Int.neg_mul_neg]
theorem dv_b {a c : Int} (h1 : 0 ≤ a) (h2 : a ≤ 35) (h3 : 1 ≤ c) : 0 ≤ a / c ∧ a / c ≤ 35 ∧ 0 ≤ a % c ∧ a % c ≤ 35 := by
  have q1 := Int.ediv_nonneg h1 (show 0 ≤ c by omega)
  have q2 := Int.ediv_le_self c h1
  have q3 := Int.emod_nonneg a (show c ≠ 0 by omega)
  have q4 : a % c ≤ a := by
    rw [Int.emod_def]
    have := Int.mul_nonneg (show 0 ≤ c by omega) q1
    omega
  omega
/-- land -/
noncomputable def ldM (w : am_W) (c : Int) : Prop := 0 ≤ c ∧ c < szM w ∧ rI w 66 c.toNat ≠ 126
theorem only.ld {ps : List Nat} {w w1 : am_W} (h : only ps w w1) (hp : 65 ∉ ps) (hq : 66 ∉ ps) (c : Int) : ldM w1 c ↔ ldM w c := by unfold ldM; rw [h.sz hp, h.rIe hq]
theorem q_isCell {d : Nat} {w : am_W} (c : Int32) (I : ab_inv ab_TT ab_sets w) : aw none (d + 1) 114 (fun r w1 => w = w1 ∧ ∃ b : Int32, r = some (.int b) ∧ ((b.toInt = 1 ∧ 0 ≤ c.toInt ∧ c.toInt < szM w) ∨ (b.toInt = 0 ∧ (c.toInt < 0 ∨ szM w ≤ c.toInt)))) (0, am_entry 114 [.ref 65, .int c], []) w := by
  have J : ab_J ab_TT ab_sets ab_WR w w := ⟨I, ab_fr.rf⟩
  show aw none _ 114 _ (0, [some (.ref 65), some (.int c)], []) w
  refine aw_step (f1 := (1, [some (.ref 65), some (.int c)], [(.int c)])) (w1 := w) rfl rfl ?_
  refine s_l (pc1 := 2) (ls1 := [some (.ref 65), some (.int c)]) (st1 := []) rfl rfl fun y1 e2 => ?_
  have e2t : y1.toInt = c.toInt := by rw [e2]; exact Int32.toInt_toInt64 c
  refine s_l (pc1 := 3) (ls1 := [some (.ref 65), some (.int c)]) (st1 := [(.long y1)]) rfl rfl fun y3 e4 => ?_
  have e4t : y3.toInt = 0 := by rw [e4]; rfl
  refine aw_step (f1 := (4, [some (.ref 65), some (.int c)], [(.ref 65), (.long y3), (.long y1)])) (w1 := w) rfl rfl ?_
  refine s_cv (z := 113) (p := 65) (as := []) (st1 := [(.long y3), (.long y1)]) J 7 rfl rfl rfl rfl rfl rfl rfl rfl (Nat.le_of_ble_eq_true rfl) (Nat.le_of_ble_eq_true rfl) (q_cells J.1) ?_
  rintro _ _ ⟨rfl, x5, rfl, x5t⟩
  refine ⟨rfl, ?_⟩
  show aw none _ 114 _ (7, [some (.ref 65), some (.int c)], [(.int x5), (.long y3), (.long y1)]) w
  have x5s := szM_in J.1
  refine s_i (pc1 := 8) (ls1 := [some (.ref 65), some (.int c)]) (st1 := [(.int x5), (.long y3), (.long y1)]) rfl rfl fun x6 e7 => ?_
  have e7t : x6.toInt = 1 := by rw [e7]; rfl
  refine s_i (pc1 := 9) (ls1 := [some (.ref 65), some (.int c)]) (st1 := [(.long y3), (.long y1)]) rfl rfl fun x8 e9 => ?_
  have e9 : x8 = x5 - x6 := e9
  have e9t : x8.toInt = x5.toInt - x6.toInt := by rw [e9]; exact n_sub (by omega) (by omega)
  refine s_l (pc1 := 10) (ls1 := [some (.ref 65), some (.int c)]) (st1 := [(.long y3), (.long y1)]) rfl rfl fun y10 e11 => ?_
  have e11t : y10.toInt = x8.toInt := by rw [e11]; exact Int32.toInt_toInt64 x8
  refine s_cs (z := 108) (as := [(.long y1), (.long y3), (.long y10)]) (st1 := []) 13 rfl rfl rfl rfl rfl rfl (Nat.le_of_ble_eq_true rfl) (Nat.le_of_ble_eq_true rfl) (Nat.le_of_ble_eq_true rfl) (q_in2 y1 y3 y10) ?_
  rintro _ _ ⟨rfl, x12, rfl, x12t⟩
  refine ⟨rfl, ?_⟩
  show aw none _ 114 _ (13, [some (.ref 65), some (.int c)], [(.int x12)]) w
  refine aw_ret (v := some (.int x12)) rfl (am_retz (by omega)) ?_
  exact ⟨rfl, x12, rfl, by omega⟩
theorem q_isLand {d : Nat} {w : am_W} (c : Int32) (I : ab_inv ab_TT ab_sets w) : aw none (d + 2) 115 (fun r w1 => w = w1 ∧ ∃ b : Int32, r = some (.int b) ∧ ((b.toInt = 1 ∧ 0 ≤ c.toInt ∧ c.toInt < szM w ∧ rI w 66 c.toInt.toNat ≠ 126) ∨ (b.toInt = 0 ∧ (c.toInt < 0 ∨ szM w ≤ c.toInt ∨ rI w 66 c.toInt.toNat = 126)))) (0, am_entry 115 [.ref 65, .int c], []) w := by
  have J : ab_J ab_TT ab_sets ab_WR w w := ⟨I, ab_fr.rf⟩
  show aw none _ 115 _ (0, [some (.ref 65), some (.int c)], []) w
  refine aw_step (f1 := (1, [some (.ref 65), some (.int c)], [(.ref 65)])) (w1 := w) rfl rfl ?_
  refine aw_step (f1 := (2, [some (.ref 65), some (.int c)], [(.int c), (.ref 65)])) (w1 := w) rfl rfl ?_
  refine s_cv (z := 114) (p := 65) (as := [(.int c)]) (st1 := []) J 5 rfl rfl rfl rfl rfl rfl rfl rfl (Nat.le_of_ble_eq_true rfl) (Nat.le_of_ble_eq_true rfl) (q_isCell c J.1) ?_
  rintro _ _ ⟨rfl, x1, rfl, x1t⟩
  refine ⟨rfl, ?_⟩
  show aw none _ 115 _ (5, [some (.ref 65), some (.int c)], [(.int x1)]) w
  have x1s := szM_in J.1
  refine s_if 23 8 rfl rfl rfl (fun (h2 : x1.toInt = 0) => ?_) (fun (h2 : ¬ (x1.toInt = 0)) => ?_)
  · --
    refine s_i (pc1 := 24) (ls1 := [some (.ref 65), some (.int c)]) (st1 := []) rfl rfl fun x3 e4 => ?_
    have e4t : x3.toInt = 0 := by rw [e4]; rfl
    refine aw_ret (v := some (.int x3)) rfl (am_retz (by omega)) ?_
    exact ⟨rfl, x3, rfl, by omega⟩
  · --
    refine aw_step (f1 := (9, [some (.ref 65), some (.int c)], [(.ref 65)])) (w1 := w) rfl rfl ?_
    refine s_gr 66 J 12 rfl rfl rfl rfl rfl rfl ?_
    refine aw_step (f1 := (13, [some (.ref 65), some (.int c)], [(.int c), (.ref 66)])) (w1 := w) rfl rfl ?_
    refine s_ia J 14 rfl rfl rfl rfl (by omega) (by omega) fun x5 x5a x5b x5f => ?_
    have hs := rI_of x5f
    refine s_i (pc1 := 16) (ls1 := [some (.ref 65), some (.int c)]) (st1 := [(.int x5)]) rfl rfl fun x6 e7 => ?_
    have e7t : x6.toInt = 126 := by rw [e7]; rfl
    refine s_ic 23 19 rfl rfl rfl (fun (h8 : x5.toInt = x6.toInt) => ?_) (fun (h8 : ¬ (x5.toInt = x6.toInt)) => ?_)
    · --
      refine s_i (pc1 := 24) (ls1 := [some (.ref 65), some (.int c)]) (st1 := []) rfl rfl fun x9 e10 => ?_
      have e10t : x9.toInt = 0 := by rw [e10]; rfl
      refine aw_ret (v := some (.int x9)) rfl (am_retz (by omega)) ?_
      exact ⟨rfl, x9, rfl, by omega⟩
    · --
      refine s_i (pc1 := 20) (ls1 := [some (.ref 65), some (.int c)]) (st1 := []) rfl rfl fun x11 e12 => ?_
      have e12t : x11.toInt = 1 := by rw [e12]; rfl
      refine aw_step (f1 := (24, [some (.ref 65), some (.int c)], [(.int x11)])) (w1 := w) rfl rfl ?_
      refine aw_ret (v := some (.int x11)) rfl (am_retz (by omega)) ?_
      exact ⟨rfl, x11, rfl, by omega⟩
theorem q_square {d : Nat} {w : am_W} (a b : Int32) (ha : 0 ≤ a.toInt ∧ a.toInt ≤ 35) (hb : 0 ≤ b.toInt ∧ b.toInt ≤ 35) (I : ab_inv ab_TT ab_sets w) : aw none d 130 (fun r w1 => w = w1 ∧ ∃ z : Int32, r = some (.int z) ∧ z.toInt = sqM (fI w 65 1) a.toInt b.toInt) (0, am_entry 130 [.ref 65, .int a, .int b], []) w := by
  have J : ab_J ab_TT ab_sets ab_WR w w := ⟨I, ab_fr.rf⟩
  show aw none d 130 _ (0, [some (.ref 65), some (.int a), some (.int b), none, none], []) w
  refine aw_step (f1 := (1, [some (.ref 65), some (.int a), some (.int b), none, none], [(.int a)])) (w1 := w) rfl rfl ?_
  refine aw_step (f1 := (2, [some (.ref 65), some (.int a), some (.int b), none, none], [(.ref 65), (.int a)])) (w1 := w) rfl rfl ?_
  refine s_gi J 5 rfl rfl rfl rfl rfl rfl fun x1 x1a x1b x1f => ?_
  refine s_dv (f := fun x y => x / y) 6 rfl rfl (by omega) fun x2 e3 => ?_
  have e3 : x2 = a / x1 := e3
  have e3t : x2.toInt = a.toInt / x1.toInt := by rw [e3]; exact n_div (by omega) (by omega)
  refine aw_step (f1 := (7, [some (.ref 65), some (.int a), some (.int b), none, none], [(.int b), (.int x2)])) (w1 := w) rfl rfl ?_
  refine aw_step (f1 := (8, [some (.ref 65), some (.int a), some (.int b), none, none], [(.ref 65), (.int b), (.int x2)])) (w1 := w) rfl rfl ?_
  refine s_gi J 11 rfl rfl rfl rfl rfl rfl fun x4 x4a x4b x4f => ?_
  have hcx4 : x4 = x1 := by have := x4f.symm.trans x1f; cases this; rfl
  refine s_dv (f := fun x y => x / y) 12 rfl rfl (by omega) fun x5 e6 => ?_
  have e6 : x5 = b / x4 := e6
  have e6t : x5.toInt = b.toInt / x4.toInt := by rw [e6]; exact n_div (by omega) (by omega)
  have b1 := dv_b (a := a.toInt) (c := x1.toInt) (by omega) (by omega) (by omega)
  have b2 := dv_b (a := b.toInt) (c := x1.toInt) (by omega) (by omega) (by omega)
  rw [hcx4] at e6t
  refine s_i (pc1 := 13) (ls1 := [some (.ref 65), some (.int a), some (.int b), none, none]) (st1 := []) rfl rfl fun x7 e8 => ?_
  have e8 : x7 = x2 - x5 := e8
  have e8t : x7.toInt = x2.toInt - x5.toInt := by rw [e8]; exact n_sub (by omega) (by omega)
  refine aw_step (f1 := (14, [some (.ref 65), some (.int a), some (.int b), some (.int x7), none], [])) (w1 := w) rfl rfl ?_
  refine aw_step (f1 := (15, [some (.ref 65), some (.int a), some (.int b), some (.int x7), none], [(.int a)])) (w1 := w) rfl rfl ?_
  refine aw_step (f1 := (16, [some (.ref 65), some (.int a), some (.int b), some (.int x7), none], [(.ref 65), (.int a)])) (w1 := w) rfl rfl ?_
  refine s_gi J 19 rfl rfl rfl rfl rfl rfl fun x9 x9a x9b x9f => ?_
  have hcx9 : x9 = x1 := by have := x9f.symm.trans x1f; cases this; rfl
  refine s_dv (f := fun x y => x - x / y * y) 20 rfl rfl (by omega) fun x10 e11 => ?_
  have e11 : x10 = a - a / x9 * x9 := e11
  have e11t : x10.toInt = a.toInt % x9.toInt := by rw [e11]; exact n_rem (by omega) (by omega)
  rw [hcx9] at e11t
  refine aw_step (f1 := (21, [some (.ref 65), some (.int a), some (.int b), some (.int x7), none], [(.int b), (.int x10)])) (w1 := w) rfl rfl ?_
  refine aw_step (f1 := (22, [some (.ref 65), some (.int a), some (.int b), some (.int x7), none], [(.ref 65), (.int b), (.int x10)])) (w1 := w) rfl rfl ?_
  refine s_gi J 25 rfl rfl rfl rfl rfl rfl fun x12 x12a x12b x12f => ?_
  have hcx12 : x12 = x1 := by have := x12f.symm.trans x1f; cases this; rfl
  refine s_dv (f := fun x y => x - x / y * y) 26 rfl rfl (by omega) fun x13 e14 => ?_
  have e14 : x13 = b - b / x12 * x12 := e14
  have e14t : x13.toInt = b.toInt % x12.toInt := by rw [e14]; exact n_rem (by omega) (by omega)
  rw [hcx12] at e14t
  refine s_i (pc1 := 27) (ls1 := [some (.ref 65), some (.int a), some (.int b), some (.int x7), none]) (st1 := []) rfl rfl fun x15 e16 => ?_
  have e16 : x15 = x10 - x13 := e16
  have e16t : x15.toInt = x10.toInt - x13.toInt := by rw [e16]; exact n_sub (by omega) (by omega)
  refine aw_step (f1 := (29, [some (.ref 65), some (.int a), some (.int b), some (.int x7), some (.int x15)], [])) (w1 := w) rfl rfl ?_
  have s1 := sq_b (r := x7.toInt) (by omega) (by omega)
  have s2 := sq_b (r := x15.toInt) (by omega) (by omega)
  refine aw_step (f1 := (30, [some (.ref 65), some (.int a), some (.int b), some (.int x7), some (.int x15)], [(.int x7)])) (w1 := w) rfl rfl ?_
  refine aw_step (f1 := (31, [some (.ref 65), some (.int a), some (.int b), some (.int x7), some (.int x15)], [(.int x7), (.int x7)])) (w1 := w) rfl rfl ?_
  refine s_i (pc1 := 32) (ls1 := [some (.ref 65), some (.int a), some (.int b), some (.int x7), some (.int x15)]) (st1 := []) rfl rfl fun x17 e18 => ?_
  have e18 : x17 = x7 * x7 := e18
  have m1 : x17.toInt = x7.toInt * x7.toInt := by rw [e18, n_mul (by omega) (by omega)]
  refine aw_step (f1 := (34, [some (.ref 65), some (.int a), some (.int b), some (.int x7), some (.int x15)], [(.int x15), (.int x17)])) (w1 := w) rfl rfl ?_
  refine aw_step (f1 := (36, [some (.ref 65), some (.int a), some (.int b), some (.int x7), some (.int x15)], [(.int x15), (.int x15), (.int x17)])) (w1 := w) rfl rfl ?_
  refine s_i (pc1 := 37) (ls1 := [some (.ref 65), some (.int a), some (.int b), some (.int x7), some (.int x15)]) (st1 := [(.int x17)]) rfl rfl fun x19 e20 => ?_
  have e20 : x19 = x15 * x15 := e20
  have m2 : x19.toInt = x15.toInt * x15.toInt := by rw [e20, n_mul (by omega) (by omega)]
  refine s_i (pc1 := 38) (ls1 := [some (.ref 65), some (.int a), some (.int b), some (.int x7), some (.int x15)]) (st1 := []) rfl rfl fun x21 e22 => ?_
  have e22 : x21 = x17 + x19 := e22
  have e22t : x21.toInt = x17.toInt + x19.toInt := by rw [e22]; exact n_add (by omega) (by omega)
  have fin : x21.toInt = sqM (fI w 65 1) a.toInt b.toInt := by
    rw [e22t, m1, m2]
    unfold sqM
    rw [fI_of x1f, show x7.toInt = a.toInt / x1.toInt - b.toInt / x1.toInt by omega, show x15.toInt = a.toInt % x1.toInt - b.toInt % x1.toInt by omega]
  refine aw_ret (v := some (.int x21)) rfl rfl ?_
  exact ⟨rfl, x21, rfl, fin⟩
/-- the set of cells that a stride of this square leads to -/
noncomputable def ldsM (w : am_W) (far b : Int) (x : Nat) : Prop := x < 2 ^ 36 ∧ ∀ j : Nat, bt x j = 1 ↔ ldM w j ∧ sqM (fI w 65 1) j b = far
theorem only.lds {ps : List Nat} {w w1 : am_W} (h : only ps w w1) (hp : 65 ∉ ps) (hq : 66 ∉ ps) (far b : Int) (x : Nat) : ldsM w1 far b x ↔ ldsM w far b x := by
  unfold ldsM
  rw [h.fIe hp]
  constructor
  · intro q; exact ⟨q.1, fun j => by rw [q.2 j, h.ld hp hq]⟩
  · intro q; exact ⟨q.1, fun j => by rw [q.2 j, h.ld hp hq]⟩
noncomputable def ldP (w : am_W) (far b : Int) (x : Nat) (i : Int) : Prop := x < 2 ^ 36 ∧ ∀ j : Nat, bt x j = 1 ↔ (j : Int) < i ∧ ldM w j ∧ sqM (fI w 65 1) j b = far
theorem ldP.no {w : am_W} {far b i : Int} {x x' : Nat} (h : ldP w far b x i) (hi : 0 ≤ i) (hq : ¬ (ldM w i ∧ sqM (fI w 65 1) i b = far)) (hx : x' = x ||| 0) : ldP w far b x' (i + 1) := by
  rw [hx, Nat.or_zero]
  refine ⟨h.1, fun j => ?_⟩
  rw [h.2 j]
  constructor
  · intro q; exact ⟨by omega, q.2⟩
  · intro q
    refine ⟨?_, q.2⟩
    by_cases e : (j : Int) = i
    · rw [e] at q; exact absurd q.2 hq
    · omega
theorem ldP.ye {w : am_W} {far b i : Int} {x x' y : Nat} (h : ldP w far b x i) (hi : 0 ≤ i) (h36 : i < 36) (hq : ldM w i ∧ sqM (fI w 65 1) i b = far) (hy : y = 2 ^ i.toNat) (hx : x' = x ||| y) : ldP w far b x' (i + 1) := by
  have hp : 2 ^ i.toNat < 2 ^ 36 := Nat.pow_lt_pow_right (by omega) (by omega)
  rw [hx, hy]
  refine ⟨Nat.or_lt_two_pow h.1 hp, fun j => ?_⟩
  rw [bt_or, bt_pow]
  have b1 := bt_le x j
  by_cases e : (j : Int) = i
  · rw [if_pos (by omega), e]
    constructor
    · intro _; exact ⟨by omega, hq⟩
    · intro _; omega
  · rw [if_neg (by omega), show max (bt x j) 0 = bt x j by omega, h.2 j]
    constructor
    · intro q; exact ⟨by omega, q.2⟩
    · intro q; exact ⟨by omega, q.2⟩
theorem q_leadsByL {d : Nat} {w : am_W} (f b : Int32) (hb : 0 ≤ b.toInt ∧ b.toInt ≤ 35) (J : ab_J ab_TT ab_sets ab_WR w w) : ∀ (m : Nat) (x : Int64) (i : Int32), (szM w - i.toInt).toNat < m → 0 ≤ i.toInt → i.toInt ≤ szM w → ldP w f.toInt b.toInt (n64 x) i.toInt → aw none (d + 3) 131 (fun r w1 => w = w1 ∧ ∃ y : Int64, r = some (.long y) ∧ ldsM w f.toInt b.toInt (n64 y)) (5, [some (.ref 65), some (.int f), some (.int b), some (.long x), none, some (.int i)], []) w := by
  intro m
  induction m with
  | zero => intro x i p; omega
  | succ m ih =>
    intro x i p1 p2 p3 P
    refine aw_step (f1 := (7, [some (.ref 65), some (.int f), some (.int b), some (.long x), none, some (.int i)], [(.int i)])) (w1 := w) rfl rfl ?_
    refine aw_step (f1 := (8, [some (.ref 65), some (.int f), some (.int b), some (.long x), none, some (.int i)], [(.ref 65), (.int i)])) (w1 := w) rfl rfl ?_
    refine s_cv (z := 113) (p := 65) (as := []) (st1 := [(.int i)]) J 11 rfl rfl rfl rfl rfl rfl rfl rfl (Nat.le_of_ble_eq_true rfl) (Nat.le_of_ble_eq_true rfl) (q_cells J.1) ?_
    rintro _ _ ⟨rfl, x1, rfl, x1t⟩
    refine ⟨rfl, ?_⟩
    show aw none _ 131 _ (11, [some (.ref 65), some (.int f), some (.int b), some (.long x), none, some (.int i)], [(.int x1), (.int i)]) w
    have x1s := szM_in J.1
    refine s_ic 51 14 rfl rfl rfl (fun (h2 : x1.toInt ≤ i.toInt) => ?_) (fun (h2 : ¬ (x1.toInt ≤ i.toInt)) => ?_)
    · --
      refine aw_step (f1 := (52, [some (.ref 65), some (.int f), some (.int b), some (.long x), none, some (.int i)], [(.long x)])) (w1 := w) rfl rfl ?_
      refine aw_ret (v := some (.long x)) rfl rfl ?_
      refine ⟨rfl, x, rfl, P.1, fun j => ?_⟩
      rw [P.2 j]
      constructor
      · intro q; exact q.2
      · intro q; exact ⟨by have := q.1; unfold ldM at this; omega, q⟩
    · --
      refine aw_step (f1 := (15, [some (.ref 65), some (.int f), some (.int b), some (.long x), none, some (.int i)], [(.long x)])) (w1 := w) rfl rfl ?_
      refine aw_step (f1 := (16, [some (.ref 65), some (.int f), some (.int b), some (.long x), none, some (.int i)], [(.ref 65), (.long x)])) (w1 := w) rfl rfl ?_
      refine aw_step (f1 := (18, [some (.ref 65), some (.int f), some (.int b), some (.long x), none, some (.int i)], [(.int i), (.ref 65), (.long x)])) (w1 := w) rfl rfl ?_
      refine s_cv (z := 115) (p := 65) (as := [(.int i)]) (st1 := [(.long x)]) J 21 rfl rfl rfl rfl rfl rfl rfl rfl (Nat.le_of_ble_eq_true rfl) (Nat.le_of_ble_eq_true rfl) (q_isLand i J.1) ?_
      rintro _ _ ⟨rfl, x3, rfl, x3t⟩
      refine ⟨rfl, ?_⟩
      show aw none _ 131 _ (21, [some (.ref 65), some (.int f), some (.int b), some (.long x), none, some (.int i)], [(.int x3), (.long x)]) w
      have x3s := szM_in J.1
      refine s_if 42 24 rfl rfl rfl (fun (h4 : x3.toInt = 0) => ?_) (fun (h4 : ¬ (x3.toInt = 0)) => ?_)
      · --
        --
        refine s_l (pc1 := 43) (ls1 := [some (.ref 65), some (.int f), some (.int b), some (.long x), none, some (.int i)]) (st1 := [(.long x)]) rfl rfl fun y5 e6 => ?_
        have e6t : y5.toInt = 0 := by rw [e6]; rfl
        --
        refine s_l (pc1 := 44) (ls1 := [some (.ref 65), some (.int f), some (.int b), some (.long x), none, some (.int i)]) (st1 := []) rfl rfl fun y7 e8 => ?_
        have e8 : y7 = x ||| y5 := e8
        refine aw_step (f1 := (45, [some (.ref 65), some (.int f), some (.int b), some (.long y7), none, some (.int i)], [])) (w1 := w) rfl rfl ?_
        refine aw_step (f1 := (48, [some (.ref 65), some (.int f), some (.int b), some (.long y7), none, some (.int (i + Int32.ofInt 1))], [])) (w1 := w) rfl rfl ?_
        obtain ⟨x9, x9e⟩ : ∃ z, z = (i + Int32.ofInt 1) := ⟨_, rfl⟩
        have x9t : x9.toInt = i.toInt + (1) := by rw [x9e]; exact n_add (y := Int32.ofInt (1)) (by show _ ≤ _ + (1 : Int); omega) (by show _ + (1 : Int) ≤ _; omega)
        rw [← x9e]
        refine aw_step (f1 := (5, [some (.ref 65), some (.int f), some (.int b), some (.long y7), none, some (.int x9)], [])) (w1 := w) rfl rfl ?_
        have hz : n64 y5 = 0 := by rw [show y5 = 0 from Int64.toInt_inj.mp (by rw [e6t]; rfl)]; rfl
        exact ih y7 x9 (by omega) (by omega) (by omega) (by rw [x9t]; exact P.no p2 (by unfold ldM; omega) (by rw [e8, n64_or, hz]))
      · --
        refine aw_step (f1 := (25, [some (.ref 65), some (.int f), some (.int b), some (.long x), none, some (.int i)], [(.ref 65), (.long x)])) (w1 := w) rfl rfl ?_
        refine aw_step (f1 := (27, [some (.ref 65), some (.int f), some (.int b), some (.long x), none, some (.int i)], [(.int i), (.ref 65), (.long x)])) (w1 := w) rfl rfl ?_
        refine aw_step (f1 := (28, [some (.ref 65), some (.int f), some (.int b), some (.long x), none, some (.int i)], [(.int b), (.int i), (.ref 65), (.long x)])) (w1 := w) rfl rfl ?_
        refine s_cv (z := 130) (p := 65) (as := [(.int i), (.int b)]) (st1 := [(.long x)]) J 31 rfl rfl rfl rfl rfl rfl rfl rfl (Nat.le_of_ble_eq_true rfl) (Nat.le_of_ble_eq_true rfl) (q_square i b ⟨by omega, by omega⟩ ⟨by omega, by omega⟩ J.1) ?_
        rintro _ _ ⟨rfl, x10, rfl, x10t⟩
        refine ⟨rfl, ?_⟩
        show aw none _ 131 _ (31, [some (.ref 65), some (.int f), some (.int b), some (.long x), none, some (.int i)], [(.int x10), (.long x)]) w
        refine aw_step (f1 := (32, [some (.ref 65), some (.int f), some (.int b), some (.long x), none, some (.int i)], [(.int f), (.int x10), (.long x)])) (w1 := w) rfl rfl ?_
        refine s_ic 42 35 rfl rfl rfl (fun (h11 : ¬ x10.toInt = f.toInt) => ?_) (fun (h11 : ¬ (¬ x10.toInt = f.toInt)) => ?_)
        · --
          --
          refine s_l (pc1 := 43) (ls1 := [some (.ref 65), some (.int f), some (.int b), some (.long x), none, some (.int i)]) (st1 := [(.long x)]) rfl rfl fun y12 e13 => ?_
          have e13t : y12.toInt = 0 := by rw [e13]; rfl
          --
          refine s_l (pc1 := 44) (ls1 := [some (.ref 65), some (.int f), some (.int b), some (.long x), none, some (.int i)]) (st1 := []) rfl rfl fun y14 e15 => ?_
          have e15 : y14 = x ||| y12 := e15
          refine aw_step (f1 := (45, [some (.ref 65), some (.int f), some (.int b), some (.long y14), none, some (.int i)], [])) (w1 := w) rfl rfl ?_
          refine aw_step (f1 := (48, [some (.ref 65), some (.int f), some (.int b), some (.long y14), none, some (.int (i + Int32.ofInt 1))], [])) (w1 := w) rfl rfl ?_
          obtain ⟨x16, x16e⟩ : ∃ z, z = (i + Int32.ofInt 1) := ⟨_, rfl⟩
          have x16t : x16.toInt = i.toInt + (1) := by rw [x16e]; exact n_add (y := Int32.ofInt (1)) (by show _ ≤ _ + (1 : Int); omega) (by show _ + (1 : Int) ≤ _; omega)
          rw [← x16e]
          refine aw_step (f1 := (5, [some (.ref 65), some (.int f), some (.int b), some (.long y14), none, some (.int x16)], [])) (w1 := w) rfl rfl ?_
          have hz : n64 y12 = 0 := by rw [show y12 = 0 from Int64.toInt_inj.mp (by rw [e13t]; rfl)]; rfl
          exact ih y14 x16 (by omega) (by omega) (by omega) (by rw [x16t]; exact P.no p2 (by unfold ldM; omega) (by rw [e15, n64_or, hz]))
        · --
          refine s_l (pc1 := 36) (ls1 := [some (.ref 65), some (.int f), some (.int b), some (.long x), none, some (.int i)]) (st1 := [(.long x)]) rfl rfl fun y17 e18 => ?_
          have e18t : y17.toInt = 1 := by rw [e18]; rfl
          refine aw_step (f1 := (38, [some (.ref 65), some (.int f), some (.int b), some (.long x), none, some (.int i)], [(.int i), (.long y17), (.long x)])) (w1 := w) rfl rfl ?_
          refine s_l (pc1 := 39) (ls1 := [some (.ref 65), some (.int f), some (.int b), some (.long x), none, some (.int i)]) (st1 := [(.long x)]) rfl rfl fun y19 e20 => ?_
          have e20 : y19 = y17 <<< (i.toInt64 &&& 63) := e20
          have hy : n64 y19 = 2 ^ i.toInt.toNat := by rw [e20]; exact n64_shl (by omega) (by omega) (by omega)
          refine aw_step (f1 := (43, [some (.ref 65), some (.int f), some (.int b), some (.long x), none, some (.int i)], [(.long y19), (.long x)])) (w1 := w) rfl rfl ?_
          --
          refine s_l (pc1 := 44) (ls1 := [some (.ref 65), some (.int f), some (.int b), some (.long x), none, some (.int i)]) (st1 := []) rfl rfl fun y21 e22 => ?_
          have e22 : y21 = x ||| y19 := e22
          refine aw_step (f1 := (45, [some (.ref 65), some (.int f), some (.int b), some (.long y21), none, some (.int i)], [])) (w1 := w) rfl rfl ?_
          refine aw_step (f1 := (48, [some (.ref 65), some (.int f), some (.int b), some (.long y21), none, some (.int (i + Int32.ofInt 1))], [])) (w1 := w) rfl rfl ?_
          obtain ⟨x23, x23e⟩ : ∃ z, z = (i + Int32.ofInt 1) := ⟨_, rfl⟩
          have x23t : x23.toInt = i.toInt + (1) := by rw [x23e]; exact n_add (y := Int32.ofInt (1)) (by show _ ≤ _ + (1 : Int); omega) (by show _ + (1 : Int) ≤ _; omega)
          rw [← x23e]
          refine aw_step (f1 := (5, [some (.ref 65), some (.int f), some (.int b), some (.long y21), none, some (.int x23)], [])) (w1 := w) rfl rfl ?_
          exact ih y21 x23 (by omega) (by omega) (by omega) (by rw [x23t]; exact P.ye p2 (by omega) ⟨⟨by omega, by omega, by omega⟩, by omega⟩ hy (by rw [e22, n64_or]))
theorem q_leadsBy0 {d : Nat} {w : am_W} (f b : Int32) (hb : 0 ≤ b.toInt ∧ b.toInt ≤ 35) (I : ab_inv ab_TT ab_sets w) : aw none (d + 3) 131 (fun r w1 => w = w1 ∧ ∃ y : Int64, r = some (.long y) ∧ ldsM w f.toInt b.toInt (n64 y)) (0, am_entry 131 [.ref 65, .int f, .int b], []) w := by
  have J : ab_J ab_TT ab_sets ab_WR w w := ⟨I, ab_fr.rf⟩
  have sz := szM_in I
  show aw none (d + 3) 131 _ (0, [some (.ref 65), some (.int f), some (.int b), none, none, none], []) w
  refine s_l (pc1 := 1) (ls1 := [some (.ref 65), some (.int f), some (.int b), none, none, none]) (st1 := []) rfl rfl fun y1 e2 => ?_
  have e2t : y1.toInt = 0 := by rw [e2]; rfl
  refine aw_step (f1 := (2, [some (.ref 65), some (.int f), some (.int b), some (.long y1), none, none], [])) (w1 := w) rfl rfl ?_
  refine s_i (pc1 := 3) (ls1 := [some (.ref 65), some (.int f), some (.int b), some (.long y1), none, none]) (st1 := []) rfl rfl fun x3 e4 => ?_
  have e4t : x3.toInt = 0 := by rw [e4]; rfl
  refine aw_step (f1 := (5, [some (.ref 65), some (.int f), some (.int b), some (.long y1), none, some (.int x3)], [])) (w1 := w) rfl rfl ?_
  have hz : n64 y1 = 0 := by rw [show y1 = 0 from Int64.toInt_inj.mp (by rw [e2t]; rfl)]; rfl
  exact q_leadsByL f b hb J 37 y1 x3 (by omega) (by omega) (by omega) (by rw [hz]; exact ⟨by decide, fun j => ⟨fun h => by rw [bt_z] at h; omega, fun h => by omega⟩⟩)
theorem q_leadsBy {d : Nat} {w : am_W} (f b : Int32) (hb : 0 ≤ b.toInt ∧ b.toInt ≤ 35) (I : ab_inv ab_TT ab_sets w) : aw none (d + 3) 131 (fun r w1 => w = w1 ∧ ∃ y : Int64, r = some (.long y) ∧ (0 ≤ y.toInt ∧ y.toInt ≤ 68719476735) ∧ ldsM w f.toInt b.toInt (n64 y)) (0, am_entry 131 [.ref 65, .int f, .int b], []) w := by
  refine (q_leadsBy0 f b hb I).mono ?_
  rintro r w1 ⟨e, y, g, h⟩
  have h1 := h.1
  have := n64_toInt (x := y) (by omega)
  exact ⟨e, y, g, ⟨by omega, by omega⟩, h⟩
