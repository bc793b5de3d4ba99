/-! ===== the class's own bits; Long.bitCount counts bits ===== -/
set_option maxRecDepth 100000 in
theorem sh_cntu : ∀ n, n < 64 → (((Int32.ofNat n).toInt64.toUInt64 &&& Int64.toUInt64 63).toBitVec % 64#64).toNat = n := by decide +kernel
theorem n64_ushr {x : Int64} {c : Int32} (h0 : 0 ≤ c.toInt) (h1 : c.toInt < 64) : n64 ((x.toUInt64 >>> (c.toInt64.toUInt64 &&& Int64.toUInt64 63)).toInt64) = n64 x / 2 ^ c.toInt.toNat := by
  have h := sh_cntu c.toInt.toNat (by omega)
  rw [← i32_nat h0] at h
  unfold n64
  show (x.toBitVec >>> ((c.toInt64.toUInt64 &&& Int64.toUInt64 63).toBitVec % 64#64)).toNat = _
  rw [BitVec.ushiftRight_eq', BitVec.toNat_ushiftRight, h, Nat.shiftRight_eq_div_pow]
theorem n64_c {x : Int64} {c : Int} (h : x.toInt = c) (h0 : 0 ≤ c) : n64 x = c.toNat := by
  have := n64_of (x := x) (by omega)
  omega
theorem h_bitu {x o : Int64} {c : Int32} (h0 : 0 ≤ c.toInt) (h1 : c.toInt < 64) (ho : o.toInt = 1) : n64 ((x.toUInt64 >>> (c.toInt64.toUInt64 &&& Int64.toUInt64 63)).toInt64 &&& o) = bt (n64 x) c.toInt.toNat := by
  rw [n64_and, n64_ushr h0 h1, n64_c ho (by decide)]
  show _ &&& 1 = _
  rw [Nat.and_one_is_mod]
  unfold bt
  rw [Nat.testBit_eq_decide_div_mod_eq]
  by_cases e : n64 x / 2 ^ c.toInt.toNat % 2 = 1
  · rw [e]; rfl
  · have : n64 x / 2 ^ c.toInt.toNat % 2 = 0 := by omega
    rw [this]; rfl
theorem n64_sub {x y : Int64} (h : n64 y ≤ n64 x) : n64 (x - y) = n64 x - n64 y := by
  unfold n64 at h ⊢
  rw [Int64.toBitVec_sub, BitVec.toNat_sub]
  have := x.toBitVec.isLt
  have := y.toBitVec.isLt
  omega
theorem n64_add {x y : Int64} (h : n64 x + n64 y < 18446744073709551616) : n64 (x + y) = n64 x + n64 y := by
  unfold n64 at h ⊢
  rw [Int64.toBitVec_add, BitVec.toNat_add]
  omega
theorem l2i_127 (x : Int64) {o : Int32} (ho : o.toInt = 127) : ((x.toInt32) &&& o).toInt = ((n64 x % 128 : Nat) : Int) := by
  have : o = 127 := Int32.toInt_inj.mp (by rw [ho]; rfl)
  subst this
  have e : (x.toInt32 &&& 127).toBitVec.toNat = n64 x % 128 := by
    rw [Int32.toBitVec_and, Int64.toBitVec_toInt32, BitVec.signExtend_eq_setWidth_of_le _ (by decide), BitVec.toNat_and, BitVec.toNat_setWidth]
    show x.toBitVec.toNat % 2 ^ 32 &&& 2 ^ 7 - 1 = _
    rw [Nat.and_two_pow_sub_one_eq_mod]
    unfold n64
    omega
  show (x.toInt32 &&& 127).toBitVec.toInt = _
  rw [BitVec.toInt_eq_toNat_of_lt (by rw [e]; omega), e]
/-! bytes -/
theorem and_b {a c x y : Nat} (ha : a < 256) (hc : c < 256) : (a + 256 * x) &&& (c + 256 * y) = (a &&& c) + 256 * (x &&& y) := by
  apply Nat.eq_of_testBit_eq
  intro i
  have t : ∀ u v : Nat, v < 256 → (v + 256 * u).testBit i = if i < 8 then v.testBit i else u.testBit (i - 8) := fun u v hv => by
    rw [Nat.add_comm]
    exact Nat.testBit_two_pow_mul_add u (b := v) (i := 8) hv i
  rw [Nat.testBit_and, t x a ha, t y c hc, t (x &&& y) (a &&& c) (Nat.lt_of_le_of_lt Nat.and_le_left ha)]
  by_cases h : i < 8
  · rw [if_pos h, if_pos h, if_pos h, Nat.testBit_and]
  · rw [if_neg h, if_neg h, if_neg h, Nat.testBit_and]
noncomputable def mk (c : Nat) : Nat → Nat
  | 0 => 0
  | k + 1 => c + 256 * mk c k
noncomputable def S1 (m n : Nat) : Nat := n - ((n / 2) &&& m)
noncomputable def S2 (m n : Nat) : Nat := (n &&& m) + ((n / 4) &&& m)
noncomputable def S3 (m n : Nat) : Nat := (n + n / 16) &&& m
set_option maxRecDepth 100000 in
theorem d1 : ∀ a, a < 256 → (∀ q, q < 2 → (a / 2 + 128 * q) &&& 85 = (a / 2) &&& 85) ∧ ((a / 2) &&& 85) ≤ a := by decide +kernel
set_option maxRecDepth 100000 in
theorem d2 : ∀ a, a < 256 → (∀ q, q < 4 → (a / 4 + 64 * q) &&& 51 = (a / 4) &&& 51) ∧ S2 51 (a - ((a / 2) &&& 85)) < 256 ∧ S2 51 (a - ((a / 2) &&& 85)) % 16 < 5 ∧ ∀ q, q < 5 → S2 51 (a - ((a / 2) &&& 85)) + S2 51 (a - ((a / 2) &&& 85)) / 16 + 16 * q < 256 ∧ (S2 51 (a - ((a / 2) &&& 85)) + S2 51 (a - ((a / 2) &&& 85)) / 16 + 16 * q) &&& 15 = cnt a 8 := by decide +kernel
theorem S1_b {a x m : Nat} (ha : a < 256) : S1 (85 + 256 * m) (a + 256 * x) = (a - ((a / 2) &&& 85)) + 256 * S1 m x := by
  unfold S1
  have e : (a + 256 * x) / 2 = (a / 2 + 128 * (x % 2)) + 256 * (x / 2) := by omega
  obtain ⟨k1, k2⟩ := d1 a ha
  rw [e, and_b (by omega) (by decide), k1 (x % 2) (by omega)]
  have h2 : (x / 2 &&& m) ≤ x := Nat.le_trans Nat.and_le_left (by omega)
  omega
theorem S2_b {a x m : Nat} (ha : a < 256) : S2 (51 + 256 * m) (a + 256 * x) = S2 51 a + 256 * S2 m x := by
  unfold S2
  have e : (a + 256 * x) / 4 = (a / 4 + 64 * (x % 4)) + 256 * (x / 4) := by omega
  rw [e, and_b ha (by decide), and_b (by omega) (by decide), (d2 a ha).1 (x % 4) (by omega)]
  omega
theorem S3_b {a x m : Nat} (h : a + a / 16 + 16 * (x % 16) < 256) : S3 (15 + 256 * m) (a + 256 * x) = ((a + a / 16 + 16 * (x % 16)) &&& 15) + 256 * S3 m x := by
  unfold S3
  have e : a + 256 * x + (a + 256 * x) / 16 = (a + a / 16 + 16 * (x % 16)) + 256 * (x + x / 16) := by omega
  rw [e, and_b h (by decide)]
noncomputable def T2 (k n : Nat) : Nat := S2 (mk 51 k) (S1 (mk 85 k) n)
theorem T2_s (k n : Nat) : T2 (k + 1) n = S2 51 (n % 256 - ((n % 256 / 2) &&& 85)) + 256 * T2 k (n / 256) := by
  unfold T2
  have h := d1 (n % 256) (by omega)
  rw [mk, mk, show n = n % 256 + 256 * (n / 256) by omega, S1_b (by omega), S2_b (by omega)]
  rw [show (n % 256 + 256 * (n / 256)) % 256 = n % 256 by omega, show (n % 256 + 256 * (n / 256)) / 256 = n / 256 by omega]
theorem T2_lo : ∀ k n, T2 k n % 16 < 5
  | 0, n => by unfold T2 S2 mk; rw [Nat.and_zero, Nat.and_zero]; decide
  | k + 1, n => by
    rw [T2_s]
    have := (d2 (n % 256) (by omega)).2.2.1
    omega
noncomputable def T3 (k n : Nat) : Nat := S3 (mk 15 k) (T2 k n)
theorem T3_s (k n : Nat) : T3 (k + 1) n = cnt (n % 256) 8 + 256 * T3 k (n / 256) := by
  unfold T3
  obtain ⟨-, -, -, h⟩ := d2 (n % 256) (by omega)
  obtain ⟨h1, h2⟩ := h (T2 k (n / 256) % 16) (T2_lo _ _)
  rw [T2_s, mk, S3_b h1, h2]
theorem T3_0 (n : Nat) : T3 0 n = 0 := by unfold T3 S3 mk; exact Nat.and_zero _
theorem cnt_mod {n m : Nat} : ∀ j, j ≤ m → cnt (n % 2 ^ m) j = cnt n j
  | 0, _ => rfl
  | j + 1, h => by
    rw [cnt, cnt, cnt_mod j (by omega), Nat.testBit_mod_two_pow]
    rw [show decide (j < m) = true from decide_eq_true (by omega), Bool.true_and]
theorem cnt_div (n : Nat) : ∀ m k, cnt n (m + k) = cnt n m + cnt (n / 2 ^ m) k
  | 0, k => by rw [Nat.zero_add, Nat.pow_zero, Nat.div_one]; exact (Nat.zero_add _).symm
  | m + 1, k => by
    rw [show m + 1 + k = m + k + 1 by omega, cnt_lo, cnt_div (n / 2) m k, cnt_lo n m, Nat.div_div_eq_div_mul, show 2 * 2 ^ m = 2 ^ (m + 1) by rw [Nat.pow_succ, Nat.mul_comm]]
    omega
theorem cnt_8 (n k : Nat) : cnt n (8 + k) = cnt (n % 256) 8 + cnt (n / 256) k := by
  rw [cnt_div n 8 k, ← cnt_mod (m := 8) 8 (Nat.le_refl _)]
theorem dvK {a r X K : Nat} (h : X = r + K * a) (hr : r < K) : X / K = a := by
  subst h
  rw [Nat.add_mul_div_left _ _ (by omega), Nat.div_eq_of_lt hr, Nat.zero_add]
theorem md128 {X s Z : Nat} (h : X = s + 256 * Z) (hs : s < 128) : X % 128 = s := by omega
theorem fold8 {p0 p1 p2 p3 p4 p5 p6 p7 Y A B : Nat} (h0 : p0 ≤ 8) (h1 : p1 ≤ 8) (h2 : p2 ≤ 8) (h3 : p3 ≤ 8) (h4 : p4 ≤ 8) (h5 : p5 ≤ 8) (h6 : p6 ≤ 8) (h7 : p7 ≤ 8) (e : Y = p0 + 256 * (p1 + 256 * (p2 + 256 * (p3 + 256 * (p4 + 256 * (p5 + 256 * (p6 + 256 * (p7 + 256 * 0)))))))) (eA : A = Y + Y / 256) (eB : B = A + A / 65536) : (B + B / 4294967296) % 128 = p0 + p1 + p2 + p3 + p4 + p5 + p6 + p7 ∧ Y < 1000000000000000000 := by
  have l0 : p0 < 256 := by clear e eA eB; omega
  have l1 : p0 + p1 + 256 * (p1 + p2) < 65536 := by clear e eA eB; omega
  have l2 : (p0 + p1 + p2 + p3) + 256 * (p1 + p2 + p3 + p4) + 65536 * (p2 + p3 + p4 + p5) + 16777216 * (p3 + p4 + p5 + p6) < 4294967296 := by clear e eA eB; omega
  have l3 : p0 + p1 + p2 + p3 + p4 + p5 + p6 + p7 < 128 := by clear e eA eB; omega
  have l4 : Y < 1000000000000000000 := by rw [e]; clear e eA eB l0 l1 l2 l3; omega
  have e1 : Y / 256 = p1 + 256 * (p2 + 256 * (p3 + 256 * (p4 + 256 * (p5 + 256 * (p6 + 256 * (p7 + 256 * 0)))))) := dvK e l0
  have e2 : A = (p0 + p1 + 256 * (p1 + p2)) + 65536 * ((p2 + p3) + 256 * ((p3 + p4) + 256 * ((p4 + p5) + 256 * ((p5 + p6) + 256 * ((p6 + p7) + 256 * p7))))) := by
    rw [eA, e1, e]
    clear e eA eB e1 l0 l1 l2 l3 l4 h0 h1 h2 h3 h4 h5 h6 h7
    omega
  have e3 := dvK e2 l1
  have e4 : B = ((p0 + p1 + p2 + p3) + 256 * (p1 + p2 + p3 + p4) + 65536 * (p2 + p3 + p4 + p5) + 16777216 * (p3 + p4 + p5 + p6)) + 4294967296 * ((p4 + p5 + p6 + p7) + 256 * ((p5 + p6 + p7) + 256 * ((p6 + p7) + 256 * p7))) := by
    rw [eB, e3, e2]
    clear e eA eB e1 e2 e3 l0 l1 l2 l3 l4 h0 h1 h2 h3 h4 h5 h6 h7
    omega
  have e5 := dvK e4 l2
  refine ⟨md128 (Z := (p1 + p2 + p3 + p4) + 256 * (p2 + p3 + p4 + p5) + 65536 * (p3 + p4 + p5 + p6) + 16777216 * ((p4 + p5 + p6 + p7) + 256 * ((p5 + p6 + p7) + 256 * ((p6 + p7) + 256 * p7))) + ((p5 + p6 + p7) + 256 * ((p6 + p7) + 256 * p7))) ?_ l3, l4⟩
  rw [e5, e4]
  clear e eA eB e1 e2 e3 e4 e5 l0 l1 l2 l3 l4 h0 h1 h2 h3 h4 h5 h6 h7
  omega
theorem bcN (n : Nat) : ∀ Y, Y = S3 1085102592571150095 (S2 3689348814741910323 (S1 6148914691236517205 n)) → (Y + Y / 256 + (Y + Y / 256) / 65536 + (Y + Y / 256 + (Y + Y / 256) / 65536) / 4294967296) % 128 = cnt n 64 ∧ Y < 1000000000000000000 := by
  intro Y e
  have e : Y = T3 8 n := e
  have c8 := fun k => cnt_le k 8
  rw [T3_s, T3_s, T3_s, T3_s, T3_s, T3_s, T3_s, T3_s, T3_0] at e
  have h := fold8 (c8 _) (c8 _) (c8 _) (c8 _) (c8 _) (c8 _) (c8 _) (c8 _) e rfl rfl
  refine ⟨h.1.trans ?_, h.2⟩
  rw [show (64 : Nat) = 8 + (8 + (8 + (8 + (8 + (8 + (8 + (8 + 0))))))) from rfl, cnt_8, cnt_8, cnt_8, cnt_8, cnt_8, cnt_8, cnt_8, cnt_8]
  show _ = _ + (_ + (_ + (_ + (_ + (_ + (_ + (_ + 0)))))))
  omega
theorem S_b (n : Nat) (h : n < 18446744073709551616) : (n / 2 &&& 6148914691236517205) ≤ n ∧ (S1 6148914691236517205 n &&& 3689348814741910323) + (S1 6148914691236517205 n / 4 &&& 3689348814741910323) < 9223372036854775808 := by
  refine ⟨Nat.le_trans Nat.and_le_left (by omega), ?_⟩
  have a1 : (S1 6148914691236517205 n &&& 3689348814741910323) ≤ 3689348814741910323 := Nat.and_le_right
  have a2 : (S1 6148914691236517205 n / 4 &&& 3689348814741910323) ≤ 3689348814741910323 := Nat.and_le_right
  omega
