/-! ===== bits of longs ===== -/
noncomputable def n64 (x : Int64) : Nat := x.toBitVec.toNat
theorem n64_lt (x : Int64) : n64 x < 2 ^ 64 := x.toBitVec.isLt
theorem n64_inj {x y : Int64} (h : n64 x = n64 y) : x = y := Int64.toBitVec_inj.mp (BitVec.eq_of_toNat_eq h)
theorem n64_toInt {x : Int64} (h : n64 x < 2 ^ 63) : x.toInt = (n64 x : Int) := by
  show x.toBitVec.toInt = _
  rw [BitVec.toInt_eq_toNat_of_lt]
  · rfl
  · have : x.toBitVec.toNat < 2 ^ 63 := h
    omega
theorem n64_of {x : Int64} (h : 0 ≤ x.toInt) : (n64 x : Int) = x.toInt ∧ n64 x < 2 ^ 63 := by
  have h1 : x.toInt = x.toBitVec.toInt := rfl
  rw [BitVec.toInt_eq_toNat_cond] at h1
  have h3 := x.toBitVec.isLt
  have h2 : n64 x = x.toBitVec.toNat := rfl
  rw [h2]
  split at h1
  · exact ⟨h1.symm, by omega⟩
  · omega
theorem n64_and (x y : Int64) : n64 (x &&& y) = n64 x &&& n64 y := by unfold n64; rw [Int64.toBitVec_and, BitVec.toNat_and]
theorem n64_or (x y : Int64) : n64 (x ||| y) = n64 x ||| n64 y := by unfold n64; rw [Int64.toBitVec_or, BitVec.toNat_or]
theorem n64_0 : n64 0 = 0 := rfl
theorem n64_z {x : Int64} : x.toInt = 0 ↔ n64 x = 0 := by
  constructor
  · intro h
    have : x = 0 := Int64.toInt_inj.mp (by rw [h]; rfl)
    rw [this]; rfl
  · intro h
    rw [n64_toInt (by omega), h]; rfl
set_option maxRecDepth 100000 in
theorem sh_cnt : ∀ n, n < 64 → ((Int32.ofNat n).toInt64 &&& 63).toBitVec.smod 64 = BitVec.ofNat 64 n := by decide +kernel
theorem i32_nat {c : Int32} (h0 : 0 ≤ c.toInt) : c = Int32.ofNat c.toInt.toNat := (Int32.ofNat_toNatClampNeg c (Int32.le_iff_toInt_le.mpr h0)).symm
theorem sh_cn {c : Int32} (h0 : 0 ≤ c.toInt) (h1 : c.toInt < 64) : (c.toInt64 &&& 63).toBitVec.smod 64 = BitVec.ofNat 64 c.toInt.toNat := by
  have h := sh_cnt c.toInt.toNat (by omega)
  rw [← i32_nat h0] at h
  exact h
theorem h_bit {x : Int64} {c : Int32} (h0 : 0 ≤ c.toInt) (h1 : c.toInt < 64) : ((x >>> (c.toInt64 &&& 63)) &&& 1).toInt = if (n64 x).testBit c.toInt.toNat then 1 else 0 := by
  have e : ((x >>> (c.toInt64 &&& 63)) &&& 1).toBitVec = BitVec.setWidth 64 (BitVec.ofBool ((n64 x).testBit c.toInt.toNat)) := by
    rw [Int64.toBitVec_and, Int64.toBitVec_shiftRight, sh_cn h0 h1]
    show _ &&& 1#64 = _
    rw [BitVec.and_one_eq_setWidth_ofBool_getLsbD, BitVec.sshiftRight'_ofNat_eq_sshiftRight, BitVec.getLsbD_sshiftRight]
    congr 2
    have hm : c.toInt.toNat % 2 ^ 64 = c.toInt.toNat := Nat.mod_eq_of_lt (by omega)
    rw [hm, if_pos (by omega)]
    simp only [Nat.add_zero]
    rfl
  show ((x >>> (c.toInt64 &&& 63)) &&& 1).toBitVec.toInt = _
  rw [e]
  cases (n64 x).testBit c.toInt.toNat <;> decide
theorem n64_shl {c : Int32} (h0 : 0 ≤ c.toInt) (h1 : c.toInt < 64) {o : Int64} (ho : o.toInt = 1) : n64 (o <<< (c.toInt64 &&& 63)) = 2 ^ c.toInt.toNat := by
  have : o = 1 := Int64.toInt_inj.mp (by rw [ho]; rfl)
  subst this
  unfold n64
  rw [Int64.toBitVec_shiftLeft, sh_cn h0 h1]
  show ((1#64) <<< BitVec.ofNat 64 c.toInt.toNat).toNat = _
  rw [BitVec.shiftLeft_eq', BitVec.toNat_shiftLeft, show (BitVec.ofNat 64 c.toInt.toNat).toNat = c.toInt.toNat from by rw [BitVec.toNat_ofNat]; exact Nat.mod_eq_of_lt (by omega), Nat.shiftLeft_eq]
  have : 2 ^ c.toInt.toNat < 2 ^ 64 := Nat.pow_lt_pow_right (by omega) (by omega)
  rw [show (1#64).toNat = 1 from rfl, Nat.one_mul, Nat.mod_eq_of_lt this]
/-- how many of the lowest m bits are set -/
noncomputable def cnt (n : Nat) : Nat → Nat
  | 0 => 0
  | m + 1 => cnt n m + (if n.testBit m then 1 else 0)
theorem cnt_le (n : Nat) : ∀ m, cnt n m ≤ m
  | 0 => Nat.le_refl _
  | m + 1 => by
    have := cnt_le n m
    unfold cnt
    split <;> omega
theorem cnt_lo (n : Nat) : ∀ m, cnt n (m + 1) = (if n.testBit 0 then 1 else 0) + cnt (n / 2) m
  | 0 => by unfold cnt; unfold cnt; omega
  | m + 1 => by
    rw [cnt, cnt_lo n m, cnt, Nat.testBit_add_one]
    omega
theorem cnt_mono (n : Nat) {a b : Nat} (h : a ≤ b) : cnt n a ≤ cnt n b := by
  induction b with
  | zero =>
    have : a = 0 := by omega
    rw [this]; exact Nat.le_refl _
  | succ b ih =>
    by_cases e : a = b + 1
    · rw [e]; exact Nat.le_refl _
    · have := ih (by omega)
      rw [cnt]
      omega
theorem cnt_top {n m : Nat} (h : n < 2 ^ m) : ∀ j, cnt n (m + j) = cnt n m
  | 0 => rfl
  | j + 1 => by
    rw [← Nat.add_assoc, cnt, cnt_top h j, if_neg, Nat.add_zero]
    rw [Nat.testBit_lt_two_pow (Nat.lt_of_lt_of_le h (Nat.pow_le_pow_right (by omega) (by omega)))]
    decide
theorem cnt_ker : ∀ (m n : Nat), 0 < n → n < 2 ^ m → cnt (n &&& (n - 1)) m + 1 = cnt n m
  | 0, n, h, h1 => by omega
  | m + 1, n, h, h1 => by
    rw [cnt_lo, cnt_lo n, Nat.testBit_and, Nat.and_div_two, Nat.testBit_zero, Nat.testBit_zero]
    by_cases o : n % 2 = 1
    · have e : (n - 1) / 2 = n / 2 := by omega
      have e2 : ¬ (n - 1) % 2 = 1 := by omega
      rw [e, Nat.and_self]
      simp only [o, e2, decide_true, decide_false, Bool.and_false, if_true]
      simp
      omega
    · have e : (n - 1) / 2 = n / 2 - 1 := by omega
      have ih := cnt_ker m (n / 2) (by omega) (by rw [Nat.pow_succ] at h1; omega)
      rw [e]
      simp only [o, decide_false, Bool.false_and]
      simp
      omega
theorem cnt_0 (n m : Nat) (h : cnt n m = 0) : ∀ j, j < m → n.testBit j = false := by
  induction m with
  | zero => intro j hj; omega
  | succ m ih =>
    intro j hj
    unfold cnt at h
    by_cases e : j = m
    · subst e
      cases hb : n.testBit j with
      | false => rfl
      | true => rw [hb] at h; simp at h
    · exact ih (by omega) j (by omega)
theorem cnt_pos {n m j : Nat} (hj : j < m) (hb : n.testBit j = true) : 0 < cnt n m := by
  have := cnt_0 n m
  rcases Nat.eq_zero_or_pos (cnt n m) with h | h
  · rw [this h j hj] at hb; cases hb
  · exact h
theorem cnt_z {n : Nat} (h : n < 2 ^ 64) : cnt n 64 = 0 ↔ n = 0 := by
  constructor
  · intro e
    have z := cnt_0 n 64 e
    refine Nat.eq_of_testBit_eq fun i => ?_
    rw [Nat.zero_testBit]
    by_cases hi : i < 64
    · exact z i hi
    · exact Nat.testBit_lt_two_pow (Nat.lt_of_lt_of_le h (Nat.pow_le_pow_right (by omega) (by omega)))
  · intro e
    subst e
    decide
theorem n64_ker {x : Int64} (h : x.toInt ≠ 0) {o : Int64} (ho : o.toInt = 1) : n64 (x &&& (x - o)) = n64 x &&& (n64 x - 1) := by
  have : o = 1 := Int64.toInt_inj.mp (by rw [ho]; rfl)
  subst this
  have hz : n64 x ≠ 0 := fun e => h (n64_z.mpr e)
  rw [n64_and]
  congr 1
  unfold n64 at hz ⊢
  rw [Int64.toBitVec_sub, BitVec.toNat_sub]
  have := x.toBitVec.isLt
  show (2 ^ 64 - 1 + x.toBitVec.toNat) % 2 ^ 64 = _
  omega
/-! division -/
theorem n_rem {x y : Int32} (h1 : 0 ≤ x.toInt) (h2 : 0 < y.toInt) : (x - x / y * y).toInt = x.toInt % y.toInt := by
  obtain ⟨u, hu, eu⟩ : ∃ u : Nat, u < 2 ^ 31 ∧ x = nI u := nI_of (fun q => by rw [Int32.lt_iff_toInt_lt] at q; have : (0 : Int32).toInt = 0 := rfl; omega)
  obtain ⟨v, hv, ev⟩ : ∃ v : Nat, v < 2 ^ 31 ∧ y = nI v := nI_of (fun q => by rw [Int32.lt_iff_toInt_lt] at q; have : (0 : Int32).toInt = 0 := rfl; omega)
  have tu : x.toInt = u := by rw [eu]; exact nI_toInt hu
  have tv : y.toInt = v := by rw [ev]; exact nI_toInt hv
  have hv0 : 0 < v := by omega
  rw [tu, tv, eu, ev, pk_rem hu hv0 hv, nI_toInt (Nat.lt_of_lt_of_le (Nat.mod_lt _ hv0) (Nat.le_of_lt hv))]
  rfl
theorem n_div {x y : Int32} (h1 : 0 ≤ x.toInt) (h2 : 0 < y.toInt) : (x / y).toInt = x.toInt / y.toInt := by
  rw [Int32.toInt_div_of_ne_right x y (fun q => by
      have : y.toInt = -1 := by rw [q]; decide
      omega), Int.tdiv_eq_ediv_of_nonneg h1]
theorem l_rem {x y : Int64} (h : y.toInt ≠ 0) : (x - x / y * y).toInt = x.toInt.tmod y.toInt := by
  have h1 := ab_any64 y
  unfold ab_lo64 ab_hi64 at h1
  have h2 : (x.toInt.tmod y.toInt).natAbs < y.toInt.natAbs := by
    rw [Int.natAbs_tmod]
    exact Nat.mod_lt _ (by omega)
  rw [Int64.toInt_sub, Int64.toInt_mul, Int64.toInt_div, Int.bmod_mul_bmod, Int.sub_bmod_bmod, Int.mul_comm, ← Int.tmod_def]
  exact Int.bmod_eq_of_le (by omega) (by omega)
