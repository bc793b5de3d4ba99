/-! ===== methods of the model that look at no cell ===== -/
theorem am_retz {x : Int32} (h : x.toInt = 0 ∨ x.toInt = 1) : (bif Nat.beq 2 1 || Nat.beq 2 2 then am_ret 2 [.int x] else none) = some (.inr (.inr (some (.int x)))) := by
  have hx : x = 0 ∨ x = 1 := h.imp n_0 n_1
  show (if x = 0 ∨ x = 1 then some (Sum.inr (Sum.inr (some (Value.int x)))) else none) = (some (Sum.inr (Sum.inr (some (Value.int x)))) : Option am_R)
  rw [if_pos hx]
/-- the j-th bit, a number -/
noncomputable def bt (n j : Nat) : Nat := if n.testBit j then 1 else 0
theorem bt_le (n j : Nat) : bt n j ≤ 1 := by unfold bt; split <;> omega
theorem bt_1 {n j : Nat} : bt n j = 1 ↔ n.testBit j = true := by unfold bt; split <;> simp_all
theorem bt_0 {n j : Nat} : bt n j = 0 ↔ n.testBit j = false := by unfold bt; split <;> simp_all
theorem bt_s (n j : Nat) : cnt n (j + 1) = cnt n j + bt n j := rfl
theorem bt_hi {n m j : Nat} (h : n < 2 ^ m) (hj : m ≤ j) : bt n j = 0 := bt_0.mpr (Nat.testBit_lt_two_pow (Nat.lt_of_lt_of_le h (Nat.pow_le_pow_right (by omega) hj)))
theorem bt_pos {n m j : Nat} (hj : j < m) (h : 0 < bt n j) : 0 < cnt n m := cnt_pos hj (bt_1.mp (by have := bt_le n j; omega))
theorem q_has {d : Nat} {w : am_W} (x : Int64) (c : Int32) (p0 : 0 ≤ c.toInt) (p1 : c.toInt < 64) : aw none d 110 (fun r w1 => w = w1 ∧ ∃ b : Int32, r = some (.int b) ∧ b.toInt = bt (n64 x) c.toInt.toNat) (0, am_entry 110 [.long x, .int c], []) w := by
  show aw none d 110 _ (0, [some (.long x), none, some (.int c)], []) w
  refine aw_step (f1 := (1, [some (.long x), none, some (.int c)], [(.long x)])) (w1 := w) rfl rfl ?_
  refine aw_step (f1 := (2, [some (.long x), none, some (.int c)], [(.int c), (.long x)])) (w1 := w) rfl rfl ?_
  refine s_l (pc1 := 3) (ls1 := [some (.long x), none, some (.int c)]) (st1 := []) rfl rfl fun y1 e2 => ?_
  have e2 : y1 = x >>> (c.toInt64 &&& 63) := e2
  refine s_l (pc1 := 4) (ls1 := [some (.long x), none, some (.int c)]) (st1 := [(.long y1)]) rfl rfl fun y3 e4 => ?_
  have e4t : y3.toInt = 1 := by rw [e4]; rfl
  refine s_l (pc1 := 5) (ls1 := [some (.long x), none, some (.int c)]) (st1 := []) rfl rfl fun y5 e6 => ?_
  have e6 : y5 = y1 &&& y3 := e6
  refine s_l (pc1 := 6) (ls1 := [some (.long x), none, some (.int c)]) (st1 := [(.long y5)]) rfl rfl fun y7 e8 => ?_
  have e8t : y7.toInt = 1 := by rw [e8]; rfl
  refine s_lc 14 10 7 rfl rfl rfl rfl rfl (fun (h9 : ¬ y5.toInt = y7.toInt) => ?_) (fun (h9 : ¬ (¬ y5.toInt = y7.toInt)) => ?_)
  · --
    refine s_i (pc1 := 15) (ls1 := [some (.long x), none, some (.int c)]) (st1 := []) rfl rfl fun x10 e11 => ?_
    have e11t : x10.toInt = 0 := by rw [e11]; rfl
    refine aw_ret (v := some (.int x10)) rfl (am_retz (by omega)) ?_
    refine ⟨rfl, x10, rfl, ?_⟩
    have q := h_bit (x := x) p0 p1
    rw [← e2, show (1 : Int64) = y3 from e4.symm, ← e6] at q
    have q1 : y5.toInt = bt (n64 x) c.toInt.toNat := by rw [q]; unfold bt; split <;> rfl
    have q2 := bt_le (n64 x) c.toInt.toNat
    omega
  · --
    refine s_i (pc1 := 11) (ls1 := [some (.long x), none, some (.int c)]) (st1 := []) rfl rfl fun x12 e13 => ?_
    have e13t : x12.toInt = 1 := by rw [e13]; rfl
    refine aw_step (f1 := (15, [some (.long x), none, some (.int c)], [(.int x12)])) (w1 := w) rfl rfl ?_
    refine aw_ret (v := some (.int x12)) rfl (am_retz (by omega)) ?_
    refine ⟨rfl, x12, rfl, ?_⟩
    have q := h_bit (x := x) p0 p1
    rw [← e2, show (1 : Int64) = y3 from e4.symm, ← e6] at q
    have q1 : y5.toInt = bt (n64 x) c.toInt.toNat := by rw [q]; unfold bt; split <;> rfl
    have q2 := bt_le (n64 x) c.toInt.toNat
    omega
theorem q_in {d : Nat} {w : am_W} (x a b : Int64) : aw none d 108 (fun r w1 => w = w1 ∧ ∃ z : Int32, r = some (.int z) ∧ z.toInt = if a.toInt ≤ x.toInt ∧ x.toInt ≤ b.toInt then 1 else 0) (0, am_entry 108 [.long x, .long a, .long b], []) w := by
  show aw none d 108 _ (0, [some (.long x), none, some (.long a), none, some (.long b), none], []) w
  refine aw_step (f1 := (1, [some (.long x), none, some (.long a), none, some (.long b), none], [(.long x)])) (w1 := w) rfl rfl ?_
  refine aw_step (f1 := (2, [some (.long x), none, some (.long a), none, some (.long b), none], [(.long a), (.long x)])) (w1 := w) rfl rfl ?_
  refine s_lc 17 6 3 rfl rfl rfl rfl rfl (fun (h1 : x.toInt < a.toInt) => ?_) (fun (h1 : ¬ (x.toInt < a.toInt)) => ?_)
  · --
    refine s_i (pc1 := 18) (ls1 := [some (.long x), none, some (.long a), none, some (.long b), none]) (st1 := []) rfl rfl fun x2 e3 => ?_
    have e3t : x2.toInt = 0 := by rw [e3]; rfl
    refine aw_ret (v := some (.int x2)) rfl (am_retz (by omega)) ?_
    exact ⟨rfl, x2, rfl, by split <;> omega⟩
  · --
    refine aw_step (f1 := (7, [some (.long x), none, some (.long a), none, some (.long b), none], [(.long x)])) (w1 := w) rfl rfl ?_
    refine aw_step (f1 := (9, [some (.long x), none, some (.long a), none, some (.long b), none], [(.long b), (.long x)])) (w1 := w) rfl rfl ?_
    refine s_lc 17 13 10 rfl rfl rfl rfl rfl (fun (h4 : b.toInt < x.toInt) => ?_) (fun (h4 : ¬ (b.toInt < x.toInt)) => ?_)
    · --
      refine s_i (pc1 := 18) (ls1 := [some (.long x), none, some (.long a), none, some (.long b), none]) (st1 := []) rfl rfl fun x5 e6 => ?_
      have e6t : x5.toInt = 0 := by rw [e6]; rfl
      refine aw_ret (v := some (.int x5)) rfl (am_retz (by omega)) ?_
      exact ⟨rfl, x5, rfl, by split <;> omega⟩
    · --
      refine s_i (pc1 := 14) (ls1 := [some (.long x), none, some (.long a), none, some (.long b), none]) (st1 := []) rfl rfl fun x7 e8 => ?_
      have e8t : x7.toInt = 1 := by rw [e8]; rfl
      refine aw_step (f1 := (18, [some (.long x), none, some (.long a), none, some (.long b), none], [(.int x7)])) (w1 := w) rfl rfl ?_
      refine aw_ret (v := some (.int x7)) rfl (am_retz (by omega)) ?_
      exact ⟨rfl, x7, rfl, by split <;> omega⟩
theorem q_onesL {d t : Nat} {w : am_W} (x : Int64) (ht : t ≤ 64) : ∀ (m : Nat) (n : Int32) (l : Int64), cnt (n64 l) 64 < m → 0 ≤ n.toInt → n.toInt + cnt (n64 l) 64 = t → aw none d 109 (fun r w1 => w = w1 ∧ ∃ b : Int32, r = some (.int b) ∧ b.toInt = t) (4, [some (.long x), none, some (.int n), some (.long l), none], []) w := by
  intro m
  induction m with
  | zero => intro n l p; omega
  | succ m ih =>
    intro n l p1 p2 p3
    have hz := @cnt_z (n64 l) (n64_lt l)
    have hz2 := @n64_z l
    refine aw_step (f1 := (5, [some (.long x), none, some (.int n), some (.long l), none], [(.long l)])) (w1 := w) rfl rfl ?_
    refine s_l (pc1 := 6) (ls1 := [some (.long x), none, some (.int n), some (.long l), none]) (st1 := [(.long l)]) rfl rfl fun y1 e2 => ?_
    have e2t : y1.toInt = 0 := by rw [e2]; rfl
    refine s_lc 22 10 7 rfl rfl rfl rfl rfl (fun (h3 : l.toInt = y1.toInt) => ?_) (fun (h3 : ¬ (l.toInt = y1.toInt)) => ?_)
    · --
      refine aw_step (f1 := (23, [some (.long x), none, some (.int n), some (.long l), none], [(.int n)])) (w1 := w) rfl rfl ?_
      refine aw_ret (v := some (.int n)) rfl rfl ?_
      exact ⟨rfl, n, rfl, by omega⟩
    · --
      refine aw_step (f1 := (13, [some (.long x), none, some (.int (n + Int32.ofInt 1)), some (.long l), none], [])) (w1 := w) rfl rfl ?_
      obtain ⟨x4, x4e⟩ : ∃ z, z = (n + Int32.ofInt 1) := ⟨_, rfl⟩
      have x4t : x4.toInt = n.toInt + (1) := by rw [x4e]; exact n_add (y := Int32.ofInt (1)) (by show _ ≤ _ + (1 : Int); omega) (by show _ + (1 : Int) ≤ _; omega)
      rw [← x4e]
      refine aw_step (f1 := (14, [some (.long x), none, some (.int x4), some (.long l), none], [(.long l)])) (w1 := w) rfl rfl ?_
      refine aw_step (f1 := (15, [some (.long x), none, some (.int x4), some (.long l), none], [(.long l), (.long l)])) (w1 := w) rfl rfl ?_
      refine s_l (pc1 := 16) (ls1 := [some (.long x), none, some (.int x4), some (.long l), none]) (st1 := [(.long l), (.long l)]) rfl rfl fun y5 e6 => ?_
      have e6t : y5.toInt = 1 := by rw [e6]; rfl
      refine s_l (pc1 := 17) (ls1 := [some (.long x), none, some (.int x4), some (.long l), none]) (st1 := [(.long l)]) rfl rfl fun y7 e8 => ?_
      have e8 : y7 = l - y5 := e8
      refine s_l (pc1 := 18) (ls1 := [some (.long x), none, some (.int x4), some (.long l), none]) (st1 := []) rfl rfl fun y9 e10 => ?_
      have e10 : y9 = l &&& y7 := e10
      refine aw_step (f1 := (19, [some (.long x), none, some (.int x4), some (.long y9), none], [])) (w1 := w) rfl rfl ?_
      refine aw_step (f1 := (4, [some (.long x), none, some (.int x4), some (.long y9), none], [])) (w1 := w) rfl rfl ?_
      have ker := cnt_ker 64 (n64 l) (by omega) (n64_lt l)
      rw [← n64_ker (o := y5) (by omega) e6t, ← e8, ← e10] at ker
      exact ih _ _ (by omega) (by omega) (by omega)
theorem q_ones {d : Nat} {w : am_W} (x : Int64) : aw none d 109 (fun r w1 => w = w1 ∧ ∃ b : Int32, r = some (.int b) ∧ b.toInt = cnt (n64 x) 64) (0, am_entry 109 [.long x], []) w := by
  show aw none d 109 _ (0, [some (.long x), none, none, none, none], []) w
  refine s_i (pc1 := 1) (ls1 := [some (.long x), none, none, none, none]) (st1 := []) rfl rfl fun x1 e2 => ?_
  have e2t : x1.toInt = 0 := by rw [e2]; rfl
  refine aw_step (f1 := (2, [some (.long x), none, some (.int x1), none, none], [])) (w1 := w) rfl rfl ?_
  refine aw_step (f1 := (3, [some (.long x), none, some (.int x1), none, none], [(.long x)])) (w1 := w) rfl rfl ?_
  refine aw_step (f1 := (4, [some (.long x), none, some (.int x1), some (.long x), none], [])) (w1 := w) rfl rfl ?_
  exact q_onesL x (cnt_le _ _) (cnt (n64 x) 64 + 1) x1 x (by omega) (by omega) (by omega)
theorem q_nthL {d : Nat} {w : am_W} (s : Int64) (i : Int32) (p0 : n64 s < 2 ^ 36) (pi : i.toInt < cnt (n64 s) 64) : ∀ (m : Nat) (l c : Int32), 64 - c.toInt.toNat < m → 0 ≤ c.toInt → 0 ≤ l.toInt → l.toInt + cnt (n64 s) c.toInt.toNat = i.toInt → aw none (d + 1) 178 (fun r w1 => w = w1 ∧ ∃ b : Int32, r = some (.int b) ∧ 0 ≤ b.toInt ∧ b.toInt < 36 ∧ bt (n64 s) b.toInt.toNat = 1) (6, [some (.ref 65), some (.long s), none, some (.int i), some (.int l), some (.int c)], []) w := by
  intro m
  induction m with
  | zero => intro l c p; omega
  | succ m ih =>
    intro l c p1 p2 p3 p4
    have pq := cnt_le (n64 s) 64
    have pb := bt_le (n64 s) c.toInt.toNat
    have pc : c.toInt < 64 := by
      apply Classical.byContradiction
      intro q
      have := cnt_mono (n64 s) (show 64 ≤ c.toInt.toNat by omega)
      omega
    refine aw_step (f1 := (7, [some (.ref 65), some (.long s), none, some (.int i), some (.int l), some (.int c)], [(.long s)])) (w1 := w) rfl rfl ?_
    refine aw_step (f1 := (9, [some (.ref 65), some (.long s), none, some (.int i), some (.int l), some (.int c)], [(.int c), (.long s)])) (w1 := w) rfl rfl ?_
    refine s_cs (z := 110) (as := [(.long s), (.int c)]) (st1 := []) 12 rfl rfl rfl rfl rfl rfl (Nat.le_of_ble_eq_true rfl) (Nat.le_of_ble_eq_true rfl) (Nat.le_of_ble_eq_true rfl) (q_has s c (by omega) (by omega)) ?_
    rintro _ _ ⟨rfl, x1, rfl, x1t⟩
    refine ⟨rfl, ?_⟩
    show aw none _ 178 _ (12, [some (.ref 65), some (.long s), none, some (.int i), some (.int l), some (.int c)], [(.int x1)]) w
    refine s_if 20 15 rfl rfl rfl (fun (h2 : x1.toInt = 0) => ?_) (fun (h2 : ¬ (x1.toInt = 0)) => ?_)
    · --
      refine aw_step (f1 := (22, [some (.ref 65), some (.long s), none, some (.int i), some (.int l), some (.int c)], [(.int l)])) (w1 := w) rfl rfl ?_
      refine aw_step (f1 := (23, [some (.ref 65), some (.long s), none, some (.int i), some (.int l), some (.int c)], [(.long s), (.int l)])) (w1 := w) rfl rfl ?_
      refine aw_step (f1 := (25, [some (.ref 65), some (.long s), none, some (.int i), some (.int l), some (.int c)], [(.int c), (.long s), (.int l)])) (w1 := w) rfl rfl ?_
      refine s_cs (z := 110) (as := [(.long s), (.int c)]) (st1 := [(.int l)]) 28 rfl rfl rfl rfl rfl rfl (Nat.le_of_ble_eq_true rfl) (Nat.le_of_ble_eq_true rfl) (Nat.le_of_ble_eq_true rfl) (q_has s c (by omega) (by omega)) ?_
      rintro _ _ ⟨rfl, x3, rfl, x3t⟩
      refine ⟨rfl, ?_⟩
      show aw none _ 178 _ (28, [some (.ref 65), some (.long s), none, some (.int i), some (.int l), some (.int c)], [(.int x3), (.int l)]) w
      refine s_if 35 31 rfl rfl rfl (fun (h4 : x3.toInt = 0) => ?_) (fun (h4 : ¬ (x3.toInt = 0)) => ?_)
      · --
        refine s_i (pc1 := 36) (ls1 := [some (.ref 65), some (.long s), none, some (.int i), some (.int l), some (.int c)]) (st1 := [(.int l)]) rfl rfl fun x5 e6 => ?_
        have e6t : x5.toInt = 0 := by rw [e6]; rfl
        refine s_i (pc1 := 37) (ls1 := [some (.ref 65), some (.long s), none, some (.int i), some (.int l), some (.int c)]) (st1 := []) rfl rfl fun x7 e8 => ?_
        have e8 : x7 = l - x5 := e8
        have e8t : x7.toInt = l.toInt - x5.toInt := by rw [e8]; exact n_sub (by omega) (by omega)
        refine aw_step (f1 := (39, [some (.ref 65), some (.long s), none, some (.int i), some (.int x7), some (.int c)], [])) (w1 := w) rfl rfl ?_
        refine aw_step (f1 := (42, [some (.ref 65), some (.long s), none, some (.int i), some (.int x7), some (.int (c + Int32.ofInt 1))], [])) (w1 := w) rfl rfl ?_
        obtain ⟨x9, x9e⟩ : ∃ z, z = (c + Int32.ofInt 1) := ⟨_, rfl⟩
        have x9t : x9.toInt = c.toInt + (1) := by rw [x9e]; exact n_add (y := Int32.ofInt (1)) (by show _ ≤ _ + (1 : Int); omega) (by show _ + (1 : Int) ≤ _; omega)
        rw [← x9e]
        refine aw_step (f1 := (6, [some (.ref 65), some (.long s), none, some (.int i), some (.int x7), some (.int x9)], [])) (w1 := w) rfl rfl ?_
        have st := bt_s (n64 s) c.toInt.toNat
        rw [show c.toInt.toNat + 1 = x9.toInt.toNat by omega] at st
        exact ih _ _ (by omega) (by omega) (by omega) (by omega)
      · --
        refine s_i (pc1 := 32) (ls1 := [some (.ref 65), some (.long s), none, some (.int i), some (.int l), some (.int c)]) (st1 := [(.int l)]) rfl rfl fun x10 e11 => ?_
        have e11t : x10.toInt = 1 := by rw [e11]; rfl
        refine aw_step (f1 := (36, [some (.ref 65), some (.long s), none, some (.int i), some (.int l), some (.int c)], [(.int x10), (.int l)])) (w1 := w) rfl rfl ?_
        refine s_i (pc1 := 37) (ls1 := [some (.ref 65), some (.long s), none, some (.int i), some (.int l), some (.int c)]) (st1 := []) rfl rfl fun x12 e13 => ?_
        have e13 : x12 = l - x10 := e13
        have e13t : x12.toInt = l.toInt - x10.toInt := by rw [e13]; exact n_sub (by omega) (by omega)
        refine aw_step (f1 := (39, [some (.ref 65), some (.long s), none, some (.int i), some (.int x12), some (.int c)], [])) (w1 := w) rfl rfl ?_
        refine aw_step (f1 := (42, [some (.ref 65), some (.long s), none, some (.int i), some (.int x12), some (.int (c + Int32.ofInt 1))], [])) (w1 := w) rfl rfl ?_
        obtain ⟨x14, x14e⟩ : ∃ z, z = (c + Int32.ofInt 1) := ⟨_, rfl⟩
        have x14t : x14.toInt = c.toInt + (1) := by rw [x14e]; exact n_add (y := Int32.ofInt (1)) (by show _ ≤ _ + (1 : Int); omega) (by show _ + (1 : Int) ≤ _; omega)
        rw [← x14e]
        refine aw_step (f1 := (6, [some (.ref 65), some (.long s), none, some (.int i), some (.int x12), some (.int x14)], [])) (w1 := w) rfl rfl ?_
        have st := bt_s (n64 s) c.toInt.toNat
        rw [show c.toInt.toNat + 1 = x14.toInt.toNat by omega] at st
        exact ih _ _ (by omega) (by omega) (by omega) (by omega)
    · --
      refine aw_step (f1 := (17, [some (.ref 65), some (.long s), none, some (.int i), some (.int l), some (.int c)], [(.int l)])) (w1 := w) rfl rfl ?_
      refine s_if 45 20 rfl rfl rfl (fun (h15 : l.toInt ≤ 0) => ?_) (fun (h15 : ¬ (l.toInt ≤ 0)) => ?_)
      · --
        refine aw_step (f1 := (47, [some (.ref 65), some (.long s), none, some (.int i), some (.int l), some (.int c)], [(.int c)])) (w1 := w) rfl rfl ?_
        refine aw_ret (v := some (.int c)) rfl rfl ?_
        exact ⟨rfl, c, rfl, by omega, by have := @bt_hi (n64 s) 36 c.toInt.toNat p0; omega, by omega⟩
      · --
        refine aw_step (f1 := (22, [some (.ref 65), some (.long s), none, some (.int i), some (.int l), some (.int c)], [(.int l)])) (w1 := w) rfl rfl ?_
        refine aw_step (f1 := (23, [some (.ref 65), some (.long s), none, some (.int i), some (.int l), some (.int c)], [(.long s), (.int l)])) (w1 := w) rfl rfl ?_
        refine aw_step (f1 := (25, [some (.ref 65), some (.long s), none, some (.int i), some (.int l), some (.int c)], [(.int c), (.long s), (.int l)])) (w1 := w) rfl rfl ?_
        refine s_cs (z := 110) (as := [(.long s), (.int c)]) (st1 := [(.int l)]) 28 rfl rfl rfl rfl rfl rfl (Nat.le_of_ble_eq_true rfl) (Nat.le_of_ble_eq_true rfl) (Nat.le_of_ble_eq_true rfl) (q_has s c (by omega) (by omega)) ?_
        rintro _ _ ⟨rfl, x16, rfl, x16t⟩
        refine ⟨rfl, ?_⟩
        show aw none _ 178 _ (28, [some (.ref 65), some (.long s), none, some (.int i), some (.int l), some (.int c)], [(.int x16), (.int l)]) w
        refine s_if 35 31 rfl rfl rfl (fun (h17 : x16.toInt = 0) => ?_) (fun (h17 : ¬ (x16.toInt = 0)) => ?_)
        · --
          refine s_i (pc1 := 36) (ls1 := [some (.ref 65), some (.long s), none, some (.int i), some (.int l), some (.int c)]) (st1 := [(.int l)]) rfl rfl fun x18 e19 => ?_
          have e19t : x18.toInt = 0 := by rw [e19]; rfl
          refine s_i (pc1 := 37) (ls1 := [some (.ref 65), some (.long s), none, some (.int i), some (.int l), some (.int c)]) (st1 := []) rfl rfl fun x20 e21 => ?_
          have e21 : x20 = l - x18 := e21
          have e21t : x20.toInt = l.toInt - x18.toInt := by rw [e21]; exact n_sub (by omega) (by omega)
          refine aw_step (f1 := (39, [some (.ref 65), some (.long s), none, some (.int i), some (.int x20), some (.int c)], [])) (w1 := w) rfl rfl ?_
          refine aw_step (f1 := (42, [some (.ref 65), some (.long s), none, some (.int i), some (.int x20), some (.int (c + Int32.ofInt 1))], [])) (w1 := w) rfl rfl ?_
          obtain ⟨x22, x22e⟩ : ∃ z, z = (c + Int32.ofInt 1) := ⟨_, rfl⟩
          have x22t : x22.toInt = c.toInt + (1) := by rw [x22e]; exact n_add (y := Int32.ofInt (1)) (by show _ ≤ _ + (1 : Int); omega) (by show _ + (1 : Int) ≤ _; omega)
          rw [← x22e]
          refine aw_step (f1 := (6, [some (.ref 65), some (.long s), none, some (.int i), some (.int x20), some (.int x22)], [])) (w1 := w) rfl rfl ?_
          have st := bt_s (n64 s) c.toInt.toNat
          rw [show c.toInt.toNat + 1 = x22.toInt.toNat by omega] at st
          exact ih _ _ (by omega) (by omega) (by omega) (by omega)
        · --
          refine s_i (pc1 := 32) (ls1 := [some (.ref 65), some (.long s), none, some (.int i), some (.int l), some (.int c)]) (st1 := [(.int l)]) rfl rfl fun x23 e24 => ?_
          have e24t : x23.toInt = 1 := by rw [e24]; rfl
          refine aw_step (f1 := (36, [some (.ref 65), some (.long s), none, some (.int i), some (.int l), some (.int c)], [(.int x23), (.int l)])) (w1 := w) rfl rfl ?_
          refine s_i (pc1 := 37) (ls1 := [some (.ref 65), some (.long s), none, some (.int i), some (.int l), some (.int c)]) (st1 := []) rfl rfl fun x25 e26 => ?_
          have e26 : x25 = l - x23 := e26
          have e26t : x25.toInt = l.toInt - x23.toInt := by rw [e26]; exact n_sub (by omega) (by omega)
          refine aw_step (f1 := (39, [some (.ref 65), some (.long s), none, some (.int i), some (.int x25), some (.int c)], [])) (w1 := w) rfl rfl ?_
          refine aw_step (f1 := (42, [some (.ref 65), some (.long s), none, some (.int i), some (.int x25), some (.int (c + Int32.ofInt 1))], [])) (w1 := w) rfl rfl ?_
          obtain ⟨x27, x27e⟩ : ∃ z, z = (c + Int32.ofInt 1) := ⟨_, rfl⟩
          have x27t : x27.toInt = c.toInt + (1) := by rw [x27e]; exact n_add (y := Int32.ofInt (1)) (by show _ ≤ _ + (1 : Int); omega) (by show _ + (1 : Int) ≤ _; omega)
          rw [← x27e]
          refine aw_step (f1 := (6, [some (.ref 65), some (.long s), none, some (.int i), some (.int x25), some (.int x27)], [])) (w1 := w) rfl rfl ?_
          have st := bt_s (n64 s) c.toInt.toNat
          rw [show c.toInt.toNat + 1 = x27.toInt.toNat by omega] at st
          exact ih _ _ (by omega) (by omega) (by omega) (by omega)
theorem q_nth {d : Nat} {w : am_W} (s : Int64) (i : Int32) (p0 : n64 s < 2 ^ 36) (pi0 : 0 ≤ i.toInt) (pi : i.toInt < cnt (n64 s) 64) : aw none (d + 1) 178 (fun r w1 => w = w1 ∧ ∃ b : Int32, r = some (.int b) ∧ 0 ≤ b.toInt ∧ b.toInt < 36 ∧ bt (n64 s) b.toInt.toNat = 1) (0, am_entry 178 [.ref 65, .long s, .int i], []) w := by
  show aw none (d + 1) 178 _ (0, [some (.ref 65), some (.long s), none, some (.int i), none, none], []) w
  refine aw_step (f1 := (1, [some (.ref 65), some (.long s), none, some (.int i), none, none], [(.int i)])) (w1 := w) rfl rfl ?_
  refine aw_step (f1 := (3, [some (.ref 65), some (.long s), none, some (.int i), some (.int i), none], [])) (w1 := w) rfl rfl ?_
  refine s_i (pc1 := 4) (ls1 := [some (.ref 65), some (.long s), none, some (.int i), some (.int i), none]) (st1 := []) rfl rfl fun x1 e2 => ?_
  have e2t : x1.toInt = 0 := by rw [e2]; rfl
  refine aw_step (f1 := (6, [some (.ref 65), some (.long s), none, some (.int i), some (.int i), some (.int x1)], [])) (w1 := w) rfl rfl ?_
  exact q_nthL s i p0 pi (64 + 1) i x1 (by omega) (by omega) (by omega) (by rw [e2t]; show _ + ((0 : Nat) : Int) = _; omega)
theorem q_commonL {d : Nat} {w : am_W} (a b : Int64) : ∀ (m : Nat) (x y : Int64) (o8 o9 : Option Value), y.toInt.natAbs < m → x.toInt ≠ 0 → aw none d 169 (fun r w1 => w = w1 ∧ ∃ z : Int64, r = some (.long z) ∧ z.toInt ≠ 0) (6, [some (.long a), none, some (.long b), none, some (.long x), none, some (.long y), none, o8, o9], []) w := by
  intro m
  induction m with
  | zero => intro x y o8 o9 p; omega
  | succ m ih =>
    intro x y o8 o9 p1 p2
    refine aw_step (f1 := (8, [some (.long a), none, some (.long b), none, some (.long x), none, some (.long y), none, o8, o9], [(.long y)])) (w1 := w) rfl rfl ?_
    refine s_l (pc1 := 9) (ls1 := [some (.long a), none, some (.long b), none, some (.long x), none, some (.long y), none, o8, o9]) (st1 := [(.long y)]) rfl rfl fun y1 e2 => ?_
    have e2t : y1.toInt = 0 := by rw [e2]; rfl
    refine s_lc 31 13 10 rfl rfl rfl rfl rfl (fun (h3 : y.toInt = y1.toInt) => ?_) (fun (h3 : ¬ (y.toInt = y1.toInt)) => ?_)
    · --
      refine aw_step (f1 := (33, [some (.long a), none, some (.long b), none, some (.long x), none, some (.long y), none, o8, o9], [(.long x)])) (w1 := w) rfl rfl ?_
      refine aw_ret (v := some (.long x)) rfl rfl ?_
      exact ⟨rfl, x, rfl, by omega⟩
    · --
      refine aw_step (f1 := (15, [some (.long a), none, some (.long b), none, some (.long x), none, some (.long y), none, o8, o9], [(.long x)])) (w1 := w) rfl rfl ?_
      refine aw_step (f1 := (17, [some (.long a), none, some (.long b), none, some (.long x), none, some (.long y), none, o8, o9], [(.long y), (.long x)])) (w1 := w) rfl rfl ?_
      refine s_dvl (f := fun x y => x - x / y * y) 18 rfl rfl (by omega) fun y4 e5 => ?_
      have e5 : y4 = x - x / y * y := e5
      refine aw_step (f1 := (20, [some (.long a), none, some (.long b), none, some (.long x), none, some (.long y), none, some (.long y4), none], [])) (w1 := w) rfl rfl ?_
      refine aw_step (f1 := (22, [some (.long a), none, some (.long b), none, some (.long x), none, some (.long y), none, some (.long y4), none], [(.long y)])) (w1 := w) rfl rfl ?_
      refine aw_step (f1 := (24, [some (.long a), none, some (.long b), none, some (.long y), none, some (.long y), none, some (.long y4), none], [])) (w1 := w) rfl rfl ?_
      refine aw_step (f1 := (26, [some (.long a), none, some (.long b), none, some (.long y), none, some (.long y), none, some (.long y4), none], [(.long y4)])) (w1 := w) rfl rfl ?_
      refine aw_step (f1 := (28, [some (.long a), none, some (.long b), none, some (.long y), none, some (.long y4), none, some (.long y4), none], [])) (w1 := w) rfl rfl ?_
      refine aw_step (f1 := (6, [some (.long a), none, some (.long b), none, some (.long y), none, some (.long y4), none, some (.long y4), none], [])) (w1 := w) rfl rfl ?_
      exact ih _ _ _ _ (by rw [e5, l_rem (by omega), Int.natAbs_tmod]; exact Nat.lt_of_lt_of_le (Nat.mod_lt _ (by omega)) (by omega)) (by omega)
theorem q_common {d : Nat} {w : am_W} (a b : Int64) (p1 : a.toInt ≠ 0) : aw none d 169 (fun r w1 => w = w1 ∧ ∃ z : Int64, r = some (.long z) ∧ z.toInt ≠ 0) (0, am_entry 169 [.long a, .long b], []) w := by
  show aw none d 169 _ (0, [some (.long a), none, some (.long b), none, none, none, none, none, none, none], []) w
  refine aw_step (f1 := (1, [some (.long a), none, some (.long b), none, none, none, none, none, none, none], [(.long a)])) (w1 := w) rfl rfl ?_
  refine aw_step (f1 := (3, [some (.long a), none, some (.long b), none, some (.long a), none, none, none, none, none], [])) (w1 := w) rfl rfl ?_
  refine aw_step (f1 := (4, [some (.long a), none, some (.long b), none, some (.long a), none, none, none, none, none], [(.long b)])) (w1 := w) rfl rfl ?_
  refine aw_step (f1 := (6, [some (.long a), none, some (.long b), none, some (.long a), none, some (.long b), none, none, none], [])) (w1 := w) rfl rfl ?_
  exact q_commonL _ _ _ _ _ _ _ (Nat.lt_succ_self _) p1
