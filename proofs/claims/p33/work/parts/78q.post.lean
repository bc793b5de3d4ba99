/-! ===== bits of ints ===== -/
noncomputable def n32 (x : Int32) : Nat := x.toBitVec.toNat
theorem n32_lt (x : Int32) : n32 x < 2 ^ 32 := x.toBitVec.isLt
theorem n32_toInt {x : Int32} (h : n32 x < 2 ^ 31) : x.toInt = (n32 x : Int) := by
  show x.toBitVec.toInt = _
  rw [BitVec.toInt_eq_toNat_of_lt]
  · rfl
  · have : x.toBitVec.toNat < 2 ^ 31 := h
    omega
theorem n32_of {x : Int32} (h : 0 ≤ x.toInt) : (n32 x : Int) = x.toInt ∧ n32 x < 2 ^ 31 := by
  have h1 : x.toInt = x.toBitVec.toInt := rfl
  rw [BitVec.toInt_eq_toNat_cond] at h1
  have h3 := x.toBitVec.isLt
  have h2 : n32 x = x.toBitVec.toNat := rfl
  rw [h2]
  split at h1
  · exact ⟨h1.symm, by omega⟩
  · omega
theorem n32_and (x y : Int32) : n32 (x &&& y) = n32 x &&& n32 y := by unfold n32; rw [Int32.toBitVec_and, BitVec.toNat_and]
theorem n32_or (x y : Int32) : n32 (x ||| y) = n32 x ||| n32 y := by unfold n32; rw [Int32.toBitVec_or, BitVec.toNat_or]
theorem n32_xor (x y : Int32) : n32 (x ^^^ y) = n32 x ^^^ n32 y := by unfold n32; rw [Int32.toBitVec_xor, BitVec.toNat_xor]
theorem bt_not32 {x y : Int32} (hy : y.toInt = -1) {j : Nat} (hj : j < 32) : bt (n32 (x ^^^ y)) j = 1 - bt (n32 x) j := by
  have e : n32 y = 2 ^ 32 - 1 := by
    have : y = -1 := Int32.toInt_inj.mp (by rw [hy]; rfl)
    rw [this]
    rfl
  unfold bt
  rw [n32_xor, e, Nat.testBit_xor, Nat.testBit_two_pow_sub_one]
  simp only [hj, decide_true]
  cases (n32 x).testBit j <;> rfl
set_option maxRecDepth 100000 in
theorem sh_u32 : ∀ n, n < 32 → (((Int32.ofNat n).toUInt32 &&& Int32.toUInt32 31).toBitVec % 32#32).toNat = n := by decide +kernel
theorem n32_ushr {x : Int32} {c : Int32} (h0 : 0 ≤ c.toInt) (h1 : c.toInt < 32) : n32 ((x.toUInt32 >>> (c.toUInt32 &&& Int32.toUInt32 31)).toInt32) = n32 x / 2 ^ c.toInt.toNat := by
  have h := sh_u32 c.toInt.toNat (by omega)
  rw [← i32_nat h0] at h
  unfold n32
  show (x.toBitVec >>> ((c.toUInt32 &&& Int32.toUInt32 31).toBitVec % 32#32)).toNat = _
  rw [BitVec.ushiftRight_eq', BitVec.toNat_ushiftRight, h, Nat.shiftRight_eq_div_pow]
theorem n32_sub {x y : Int32} (h : n32 y ≤ n32 x) : n32 (x - y) = n32 x - n32 y := by
  unfold n32 at h ⊢
  rw [Int32.toBitVec_sub, BitVec.toNat_sub]
  have := x.toBitVec.isLt
  have := y.toBitVec.isLt
  omega
theorem n32_add {x y : Int32} (h : n32 x + n32 y < 4294967296) : n32 (x + y) = n32 x + n32 y := by
  unfold n32 at h ⊢
  rw [Int32.toBitVec_add, BitVec.toNat_add]
  omega
theorem n32_c {x : Int32} {c : Int} (h : x.toInt = c) (h0 : 0 ≤ c) : n32 x = c.toNat := by
  have := n32_of (x := x) (by omega)
  omega
theorem bc16N (n : Nat) (h : n < 65536) : ∀ Y, Y = S3 252645135 (S2 858993459 (S1 1431655765 n)) → (Y + Y / 256 + (Y + Y / 256) / 65536) % 64 = cnt n 64 ∧ Y < 65536 := by
  intro Y e
  have e : Y = T3 4 n := e
  have c8 := fun k => cnt_le k 8
  rw [T3_s, T3_s, T3_s, T3_s, T3_0, show n / 256 / 256 = 0 by omega, show (0 : Nat) % 256 = 0 from rfl, show cnt 0 8 = 0 from rfl] at e
  have a := c8 (n % 256)
  have b := c8 (n / 256 % 256)
  have z : cnt 0 48 = 0 := rfl
  have c : cnt n 64 = cnt (n % 256) 8 + cnt (n / 256 % 256) 8 := by
    rw [show (64 : Nat) = 8 + (8 + 48) from rfl, cnt_8, cnt_8, show n / 256 / 256 = 0 by omega, z]
    rfl
  have y0 : Y = cnt (n % 256) 8 + 256 * cnt (n / 256 % 256) 8 := by omega
  have y1 : Y / 256 = cnt (n / 256 % 256) 8 := by omega
  have y2 : (Y + Y / 256) / 65536 = 0 := by rw [y1]; omega
  refine ⟨?_, by omega⟩
  rw [y2, y1, c, y0]
  omega
theorem q_bc16 {d : Nat} {w : am_W} (x : Int32) (h0 : 0 ≤ x.toInt) (h1 : x.toInt < 65536) : aw none d 187 (fun r w1 => w = w1 ∧ ∃ b : Int32, r = some (.int b) ∧ b.toInt = cnt x.toInt.toNat 64) (0, am_entry 187 [.int x], []) w := by
  show aw none d 187 _ (0, [some (.int x)], []) w
  refine aw_step (f1 := (1, [some (.int x)], [(.int x)])) (w1 := w) rfl rfl ?_
  refine aw_step (f1 := (2, [some (.int x)], [(.int x), (.int x)])) (w1 := w) rfl rfl ?_
  refine s_i (pc1 := 3) (ls1 := [some (.int x)]) (st1 := [(.int x), (.int x)]) rfl rfl fun x1 e2 => ?_
  have e2t : x1.toInt = 1 := by rw [e2]; rfl
  --
  refine s_i (pc1 := 4) (ls1 := [some (.int x)]) (st1 := [(.int x)]) rfl rfl fun x3 e4 => ?_
  have e4 : x3 = (x.toUInt32 >>> (x1.toUInt32 &&& Int32.toUInt32 31)).toInt32 := e4
  --
  refine s_i (pc1 := 7) (ls1 := [some (.int x)]) (st1 := [(.int x3), (.int x)]) rfl rfl fun x5 e6 => ?_
  have e6t : x5.toInt = 1431655765 := by rw [e6]; rfl
  --
  refine s_i (pc1 := 8) (ls1 := [some (.int x)]) (st1 := [(.int x)]) rfl rfl fun x7 e8 => ?_
  have e8 : x7 = x3 &&& x5 := e8
  --
  refine s_i (pc1 := 9) (ls1 := [some (.int x)]) (st1 := []) rfl rfl fun x9 e10 => ?_
  have e10 : x9 = x - x7 := e10
  --
  refine aw_step (f1 := (10, [some (.int x9)], [])) (w1 := w) rfl rfl ?_
  refine aw_step (f1 := (11, [some (.int x9)], [(.int x9)])) (w1 := w) rfl rfl ?_
  refine s_i (pc1 := 14) (ls1 := [some (.int x9)]) (st1 := [(.int x9)]) rfl rfl fun x11 e12 => ?_
  have e12t : x11.toInt = 858993459 := by rw [e12]; rfl
  --
  refine s_i (pc1 := 15) (ls1 := [some (.int x9)]) (st1 := []) rfl rfl fun x13 e14 => ?_
  have e14 : x13 = x9 &&& x11 := e14
  --
  refine aw_step (f1 := (16, [some (.int x9)], [(.int x9), (.int x13)])) (w1 := w) rfl rfl ?_
  refine s_i (pc1 := 17) (ls1 := [some (.int x9)]) (st1 := [(.int x9), (.int x13)]) rfl rfl fun x15 e16 => ?_
  have e16t : x15.toInt = 2 := by rw [e16]; rfl
  --
  refine s_i (pc1 := 18) (ls1 := [some (.int x9)]) (st1 := [(.int x13)]) rfl rfl fun x17 e18 => ?_
  have e18 : x17 = (x9.toUInt32 >>> (x15.toUInt32 &&& Int32.toUInt32 31)).toInt32 := e18
  --
  refine s_i (pc1 := 21) (ls1 := [some (.int x9)]) (st1 := [(.int x17), (.int x13)]) rfl rfl fun x19 e20 => ?_
  have e20t : x19.toInt = 858993459 := by rw [e20]; rfl
  --
  refine s_i (pc1 := 22) (ls1 := [some (.int x9)]) (st1 := [(.int x13)]) rfl rfl fun x21 e22 => ?_
  have e22 : x21 = x17 &&& x19 := e22
  --
  refine s_i (pc1 := 23) (ls1 := [some (.int x9)]) (st1 := []) rfl rfl fun x23 e24 => ?_
  have e24 : x23 = x13 + x21 := e24
  --
  refine aw_step (f1 := (24, [some (.int x23)], [])) (w1 := w) rfl rfl ?_
  refine aw_step (f1 := (25, [some (.int x23)], [(.int x23)])) (w1 := w) rfl rfl ?_
  refine aw_step (f1 := (26, [some (.int x23)], [(.int x23), (.int x23)])) (w1 := w) rfl rfl ?_
  refine s_i (pc1 := 27) (ls1 := [some (.int x23)]) (st1 := [(.int x23), (.int x23)]) rfl rfl fun x25 e26 => ?_
  have e26t : x25.toInt = 4 := by rw [e26]; rfl
  --
  refine s_i (pc1 := 28) (ls1 := [some (.int x23)]) (st1 := [(.int x23)]) rfl rfl fun x27 e28 => ?_
  have e28 : x27 = (x23.toUInt32 >>> (x25.toUInt32 &&& Int32.toUInt32 31)).toInt32 := e28
  --
  refine s_i (pc1 := 29) (ls1 := [some (.int x23)]) (st1 := []) rfl rfl fun x29 e30 => ?_
  have e30 : x29 = x23 + x27 := e30
  --
  refine s_i (pc1 := 32) (ls1 := [some (.int x23)]) (st1 := [(.int x29)]) rfl rfl fun x31 e32 => ?_
  have e32t : x31.toInt = 252645135 := by rw [e32]; rfl
  --
  refine s_i (pc1 := 33) (ls1 := [some (.int x23)]) (st1 := []) rfl rfl fun x33 e34 => ?_
  have e34 : x33 = x29 &&& x31 := e34
  --
  refine aw_step (f1 := (34, [some (.int x33)], [])) (w1 := w) rfl rfl ?_
  refine aw_step (f1 := (35, [some (.int x33)], [(.int x33)])) (w1 := w) rfl rfl ?_
  refine aw_step (f1 := (36, [some (.int x33)], [(.int x33), (.int x33)])) (w1 := w) rfl rfl ?_
  refine s_i (pc1 := 38) (ls1 := [some (.int x33)]) (st1 := [(.int x33), (.int x33)]) rfl rfl fun x35 e36 => ?_
  have e36t : x35.toInt = 8 := by rw [e36]; rfl
  --
  refine s_i (pc1 := 39) (ls1 := [some (.int x33)]) (st1 := [(.int x33)]) rfl rfl fun x37 e38 => ?_
  have e38 : x37 = (x33.toUInt32 >>> (x35.toUInt32 &&& Int32.toUInt32 31)).toInt32 := e38
  --
  refine s_i (pc1 := 40) (ls1 := [some (.int x33)]) (st1 := []) rfl rfl fun x39 e40 => ?_
  have e40 : x39 = x33 + x37 := e40
  --
  refine aw_step (f1 := (41, [some (.int x39)], [])) (w1 := w) rfl rfl ?_
  refine aw_step (f1 := (42, [some (.int x39)], [(.int x39)])) (w1 := w) rfl rfl ?_
  refine aw_step (f1 := (43, [some (.int x39)], [(.int x39), (.int x39)])) (w1 := w) rfl rfl ?_
  refine s_i (pc1 := 45) (ls1 := [some (.int x39)]) (st1 := [(.int x39), (.int x39)]) rfl rfl fun x41 e42 => ?_
  have e42t : x41.toInt = 16 := by rw [e42]; rfl
  --
  refine s_i (pc1 := 46) (ls1 := [some (.int x39)]) (st1 := [(.int x39)]) rfl rfl fun x43 e44 => ?_
  have e44 : x43 = (x39.toUInt32 >>> (x41.toUInt32 &&& Int32.toUInt32 31)).toInt32 := e44
  --
  refine s_i (pc1 := 47) (ls1 := [some (.int x39)]) (st1 := []) rfl rfl fun x45 e46 => ?_
  have e46 : x45 = x39 + x43 := e46
  --
  refine aw_step (f1 := (48, [some (.int x45)], [])) (w1 := w) rfl rfl ?_
  refine aw_step (f1 := (49, [some (.int x45)], [(.int x45)])) (w1 := w) rfl rfl ?_
  refine s_i (pc1 := 51) (ls1 := [some (.int x45)]) (st1 := [(.int x45)]) rfl rfl fun x47 e48 => ?_
  have e48t : x47.toInt = 63 := by rw [e48]; rfl
  --
  refine s_i (pc1 := 52) (ls1 := [some (.int x45)]) (st1 := []) rfl rfl fun x49 e50 => ?_
  have e50 : x49 = x45 &&& x47 := e50
  refine aw_ret (v := some (.int x49)) rfl rfl ?_
  have nx := n32_of h0
  have n16 : n32 x < 65536 := by omega
  have s1 : n32 x3 = n32 x / 2 := by rw [e4, n32_ushr (by omega) (by omega), e2t]; rfl
  have s2 : n32 x7 = n32 x / 2 &&& 1431655765 := by rw [e8, n32_and, s1, n32_c e6t (by decide)]; rfl
  have l2 : (n32 x / 2 &&& 1431655765) ≤ n32 x / 2 := Nat.and_le_left
  have s3 : n32 x9 = S1 1431655765 (n32 x) := by rw [e10, n32_sub (by rw [s2]; omega), s2]; rfl
  have l3 : S1 1431655765 (n32 x) < 65536 := by unfold S1; omega
  have s4 : n32 x13 = S1 1431655765 (n32 x) &&& 858993459 := by rw [e14, n32_and, s3, n32_c e12t (by decide)]; rfl
  have s5 : n32 x17 = S1 1431655765 (n32 x) / 4 := by rw [e18, n32_ushr (by omega) (by omega), e16t, s3]; rfl
  have s6 : n32 x21 = S1 1431655765 (n32 x) / 4 &&& 858993459 := by rw [e22, n32_and, s5, n32_c e20t (by decide)]; rfl
  have l4 : (S1 1431655765 (n32 x) &&& 858993459) ≤ S1 1431655765 (n32 x) := Nat.and_le_left
  have l6 : (S1 1431655765 (n32 x) / 4 &&& 858993459) ≤ S1 1431655765 (n32 x) / 4 := Nat.and_le_left
  have s7 : n32 x23 = S2 858993459 (S1 1431655765 (n32 x)) := by rw [e24, n32_add (by rw [s4, s6]; omega), s4, s6]; rfl
  have l7 : S2 858993459 (S1 1431655765 (n32 x)) < 131072 := by unfold S2; omega
  have s8 : n32 x27 = S2 858993459 (S1 1431655765 (n32 x)) / 16 := by rw [e28, n32_ushr (by omega) (by omega), e26t, s7]; rfl
  have s9 : n32 x29 = S2 858993459 (S1 1431655765 (n32 x)) + S2 858993459 (S1 1431655765 (n32 x)) / 16 := by rw [e30, n32_add (by rw [s7, s8]; omega), s7, s8]
  have s10 : n32 x33 = S3 252645135 (S2 858993459 (S1 1431655765 (n32 x))) := by rw [e34, n32_and, s9, n32_c e32t (by decide)]; rfl
  obtain ⟨B, Lt⟩ := bc16N (n32 x) n16 (n32 x33) s10
  have s11 : n32 x37 = n32 x33 / 256 := by rw [e38, n32_ushr (by omega) (by omega), e36t]; rfl
  have s12 : n32 x39 = n32 x33 + n32 x33 / 256 := by rw [e40, n32_add (by rw [s11]; omega), s11]
  have s13 : n32 x43 = n32 x39 / 65536 := by rw [e44, n32_ushr (by omega) (by omega), e42t]; rfl
  have s14 : n32 x45 = n32 x39 + n32 x39 / 65536 := by rw [e46, n32_add (by rw [s13]; omega), s13]
  have s15 : n32 x49 = n32 x45 % 64 := by
    rw [e50, n32_and, n32_c e48t (by decide)]
    exact Nat.and_two_pow_sub_one_eq_mod _ 6
  refine ⟨rfl, x49, rfl, ?_⟩
  rw [n32_toInt (by rw [s15]; omega), s15, s14, s12, B, show n32 x = x.toInt.toNat by omega]
/-! sets that serve -/
noncomputable def svP (V : Nat → Int) (L : Int) (c j : Nat) : Prop := j = c ∨ eV V L c j
noncomputable def slP (V : Nat → Int) (L : Int) (T : Nat) : Prop := (∀ c, bt T c = 1 → ldN V c) ∧ ∀ j, ldN V j → ∃ c, bt T c = 1 ∧ svP V L c j
noncomputable def bsP (V : Nat → Int) (L : Int) (T : Nat) : Prop := slP V L T ∧ ∀ U, slP V L U → cnt T 64 < cnt U 64 ∨ (cnt T 64 = cnt U 64 ∧ T ≤ U)
theorem bsP.uniq {V : Nat → Int} {L : Int} {T U : Nat} (h : bsP V L T) (g : bsP V L U) : U = T := by
  have a := h.2 U g.1
  have b := g.2 T h.1
  omega
noncomputable def posP (V : Nat → Int) (b wh z : Int) : Prop := (z = -1 ∧ (b < 0 ∨ 3 < b)) ∨ (z = -2 ∧ (0 ≤ b ∧ b ≤ 3) ∧ (wh < 0 ∨ 1 < wh)) ∨ (z = -4 ∧ (0 ≤ b ∧ b ≤ 3) ∧ (0 ≤ wh ∧ wh ≤ 1) ∧ 16 < szV V) ∨ ((0 ≤ b ∧ b ≤ 3) ∧ (0 ≤ wh ∧ wh ≤ 1) ∧ szV V ≤ 16 ∧ ∃ T, bsP V (V (8 + 4 * b.toNat + 0)) T ∧ ((wh = 0 ∧ z = cnt T 64) ∨ (wh = 1 ∧ z = T)))
theorem U_posts {V : Nat → Int} {b wh z z2 : Int} (h : posP V b wh z) (g : posP V b wh z2) : z2 = z := by
  rcases h with h | h | h | ⟨h1, h2, h3, T, h4, h5⟩ <;> rcases g with g | g | g | ⟨g1, g2, g3, U, g4, g5⟩
  · omega
  · omega
  · omega
  · omega
  · omega
  · omega
  · omega
  · omega
  · omega
  · omega
  · omega
  · omega
  · omega
  · omega
  · omega
  · have e := h4.uniq g4
    subst e
    omega
/-- what may still be taken -/
noncomputable def ckP (V : Nat → Int) (L : Int) (cell left : Int) (sv T : Nat) : Prop := (∀ c : Nat, bt T c = 1 → (c : Int) ≤ cell ∧ ldN V c) ∧ (cnt T 64 : Int) ≤ left ∧ ∀ j, ldN V j → bt sv j = 1 ∨ ∃ c, bt T c = 1 ∧ svP V L c j
noncomputable def skP (V : Nat → Int) (L : Int) (cell left : Int) (sv set : Nat) (z : Int) : Prop := (z = -6 ∧ ∀ T, ¬ ckP V L cell left sv T) ∨ ∃ T, ckP V L cell left sv T ∧ z = ((set + T : Nat) : Int) ∧ ∀ U, ckP V L cell left sv U → T ≤ U
section SK
variable {V : Nat → Int} {L cell left : Int} {sv set : Nat}
theorem cnt_zz : ∀ n, cnt 0 n = 0
  | 0 => rfl
  | n + 1 => by rw [bt_s, cnt_zz n, bt_z]
theorem sk_0 (h0 : 0 ≤ left) (h : ∀ j, ldN V j → bt sv j = 1) : skP V L cell left sv set set :=
  Or.inr ⟨0, ⟨fun c hc => by rw [bt_z] at hc; omega, by rw [cnt_zz]; exact h0, fun j hj => Or.inl (h j hj)⟩, rfl, fun U _ => Nat.zero_le _⟩
theorem sk_neg {j : Nat} (hc : cell < 0) (hj : ldN V j) (q : bt sv j ≠ 1) : skP V L cell left sv set (-6) := Or.inl ⟨rfl, fun T h => by
  rcases h.2.2 j hj with u | ⟨c, u1, u2⟩
  · exact q u
  · have := (h.1 c u1).1; omega⟩
theorem sk_h2 {j : Nat} (hj : ldN V j) (q : bt sv j ≠ 1) (n : ∀ c : Nat, (c : Int) ≤ cell → ldN V c → ¬ svP V L c j) : skP V L cell left sv set (-6) := Or.inl ⟨rfl, fun T h => by
  rcases h.2.2 j hj with u | ⟨c, u1, u2⟩
  · exact q u
  · have v := h.1 c u1
    exact n c v.1 v.2 u2⟩
noncomputable def unP (s : Nat → Nat) (T : Nat) : Nat → Nat
  | 0 => 0
  | k + 1 => unP s T k ||| (if bt T k = 1 then s k else 0)
theorem unP_b {s : Nat → Nat} {T j : Nat} : ∀ {k c : Nat}, c < k → bt T c = 1 → bt (s c) j = 1 → bt (unP s T k) j = 1
  | 0, c, h, _, _ => by omega
  | k + 1, c, h, a, b => by
    show bt (unP s T k ||| (if bt T k = 1 then s k else 0)) j = 1
    rw [bt_or]
    have l1 := bt_le (unP s T k) j
    have l2 := bt_le (if bt T k = 1 then s k else 0) j
    by_cases e : c = k
    · subst e
      rw [if_pos a, b]
      omega
    · have := unP_b (k := k) (c := c) (by omega) a b
      omega
theorem cnt_or (x y : Nat) : ∀ n, cnt (x ||| y) n ≤ cnt x n + cnt y n
  | 0 => Nat.zero_le _
  | n + 1 => by
    have := cnt_or x y n
    rw [bt_s, bt_s, bt_s, bt_or]
    omega
theorem unP_c {s : Nat → Nat} {T W : Nat} (hs : ∀ c, cnt (s c) 64 ≤ W) : ∀ k, cnt (unP s T k) 64 ≤ W * cnt T k
  | 0 => by show cnt 0 64 ≤ _; rw [cnt_zz]; exact Nat.zero_le _
  | k + 1 => by
    have ih := unP_c (T := T) hs k
    have a := cnt_or (unP s T k) (if bt T k = 1 then s k else 0) 64
    have l := bt_le T k
    show cnt (unP s T k ||| (if bt T k = 1 then s k else 0)) 64 ≤ W * (cnt T k + bt T k)
    by_cases e : bt T k = 1
    · rw [if_pos e] at a ⊢
      have := hs k
      rw [e, Nat.mul_add, Nat.mul_one]
      omega
    · rw [if_neg e] at a ⊢
      rw [cnt_zz] at a
      rw [show bt T k = 0 by omega, Nat.add_zero]
      omega
theorem sk_h1 {s : Nat → Nat} {W M : Nat} (hz : szV V ≤ 64) (hs : ∀ c, cnt (s c) 64 ≤ W) (hb : ∀ c j, ldN V c → svP V L c j → bt (s c) j = 1) (hM : ∀ j, bt M j = 1 → ldN V j ∧ bt sv j ≠ 1) (h : (left : Int) * W < cnt M 64) : skP V L cell left sv set (-6) := Or.inl ⟨rfl, fun T t => by
  have sub : ∀ j, bt M j ≤ bt (unP s T 64) j := fun j => by
    have l := bt_le M j
    by_cases e : bt M j = 1
    · obtain ⟨m1, m2⟩ := hM j e
      rcases t.2.2 j m1 with u | ⟨c, u1, u2⟩
      · exact absurd u m2
      · have v := (t.1 c u1).2
        have := unP_b (s := s) (T := T) (k := 64) (c := c) (by have := v.1; omega) u1 (hb c j v u2)
        omega
    · omega
  have a := cnt_sub sub 64
  have b := unP_c (T := T) hs 64
  have c : ((W * cnt T 64 : Nat) : Int) ≤ left * W := by
    rw [Int.natCast_mul, Int.mul_comm]
    exact Int.mul_le_mul_of_nonneg_right t.2.1 (by omega)
  omega⟩
theorem ck_lt {k : Nat} {T : Nat} (h : ckP V L ((k : Int) - 1) left sv T) : T < 2 ^ k := bt_lt fun j hj => by have := (h.1 j hj).1; omega
theorem ck_up {k : Nat} {T : Nat} (h : ckP V L ((k : Int) - 1) left sv T) : ckP V L k left sv T := ⟨fun c hc => ⟨by have := (h.1 c hc).1; omega, (h.1 c hc).2⟩, h.2⟩
theorem ck_dn {k : Nat} {T : Nat} (h : ckP V L k left sv T) (q : bt T k ≠ 1) : ckP V L ((k : Int) - 1) left sv T := ⟨fun c hc => ⟨by
    have := (h.1 c hc).1
    have : c ≠ k := fun e => q (by rw [← e]; exact hc)
    omega, (h.1 c hc).2⟩, h.2⟩
theorem ge_pow {T k : Nat} (h : bt T k = 1) : 2 ^ k ≤ T := by
  apply Classical.byContradiction
  intro q
  rw [bt_hi (n := T) (m := k) (by omega) (Nat.le_refl _)] at h
  omega
theorem sk_wo {k : Nat} {z : Int} (h : skP V L ((k : Int) - 1) left sv set z) (hz : z ≠ -6) : skP V L k left sv set z := by
  rcases h with h | ⟨T, h1, h2, h3⟩
  · exact absurd h.1 hz
  · refine Or.inr ⟨T, ck_up h1, h2, fun U hU => ?_⟩
    by_cases q : bt U k = 1
    · have := ge_pow q
      have := ck_lt h1
      omega
    · exact h3 U (ck_dn hU q)
theorem sk_nl {k : Nat} (h : skP V L ((k : Int) - 1) left sv set (-6)) (hs : (set : Int) ≥ 0) (q : ¬ ldN V k) : skP V L k left sv set (-6) := by
  rcases h with h | ⟨T, h1, h2, h3⟩
  · exact Or.inl ⟨rfl, fun T t => h.2 T (ck_dn t fun e => q (t.1 k e).2)⟩
  · omega
theorem sk_wi {k sc : Nat} {z : Int} (h : skP V L ((k : Int) - 1) left sv set (-6)) (hk : ldN V k) (k64 : k < 64) (hsc : ∀ j, bt sc j = 1 ↔ svP V L k j) (g : skP V L ((k : Int) - 1) (left - 1) (sv ||| sc) (set + 2 ^ k) z) : skP V L k left sv set z := by
  have no : ∀ T, ¬ ckP V L ((k : Int) - 1) left sv T := by
    rcases h with h | ⟨T, h1, h2, h3⟩
    · exact h.2
    · omega
  have ad : ∀ T, T < 2 ^ k → (∀ c, bt (T + 2 ^ k) c = if c = k then 1 else bt T c) ∧ cnt (T + 2 ^ k) 64 = cnt T 64 + 1 := fun T hT => by
    have e : T + 2 ^ k = T ||| 2 ^ k := by
      have := Nat.two_pow_add_eq_or_of_lt hT 1
      rw [Nat.mul_one] at this
      rw [Nat.add_comm, this, Nat.or_comm]
    have t0 : bt T k = 0 := bt_hi hT (Nat.le_refl _)
    rw [e]
    refine ⟨fun c => ?_, ?_⟩
    · rw [bt_or, bt_pow]
      have l := bt_le T c
      by_cases q : c = k
      · rw [if_pos q, if_pos q.symm]; omega
      · rw [if_neg q, if_neg (fun u => q u.symm)]; omega
    · rw [cnt_1, if_pos ⟨k64, t0⟩]
  have up : ∀ T, ckP V L ((k : Int) - 1) (left - 1) (sv ||| sc) T → ckP V L k left sv (T + 2 ^ k) := fun T t => by
    obtain ⟨a1, a2⟩ := ad T (ck_lt t)
    refine ⟨fun c hc => ?_, by have := t.2.1; omega, fun j hj => ?_⟩
    · rw [a1] at hc
      by_cases q : c = k
      · rw [q]; exact ⟨by omega, hk⟩
      · rw [if_neg q] at hc
        exact ⟨by have := (t.1 c hc).1; omega, (t.1 c hc).2⟩
    · rcases t.2.2 j hj with u | ⟨c, u1, u2⟩
      · rw [bt_or] at u
        have l1 := bt_le sv j
        have l2 := bt_le sc j
        by_cases q : bt sv j = 1
        · exact Or.inl q
        · exact Or.inr ⟨k, by rw [a1, if_pos rfl], (hsc j).mp (by omega)⟩
      · refine Or.inr ⟨c, ?_, u2⟩
        rw [a1]
        by_cases q : c = k
        · rw [if_pos q]
        · rw [if_neg q]; exact u1
  have dn : ∀ U, ckP V L k left sv U → ∃ T, ckP V L ((k : Int) - 1) (left - 1) (sv ||| sc) T ∧ U = T + 2 ^ k := fun U u => by
    have uk : bt U k = 1 := by
      apply Classical.byContradiction
      intro q
      exact no U (ck_dn u q)
    have ge := ge_pow uk
    have ul : U < 2 ^ (k + 1) := bt_lt fun j hj => by have := (u.1 j hj).1; omega
    have hT : U - 2 ^ k < 2 ^ k := by rw [Nat.pow_succ] at ul; omega
    obtain ⟨a1, a2⟩ := ad (U - 2 ^ k) hT
    rw [show U - 2 ^ k + 2 ^ k = U by omega] at a1 a2
    refine ⟨U - 2 ^ k, ⟨fun c hc => ?_, by have := u.2.1; omega, fun j hj => ?_⟩, by omega⟩
    · have ck : c < k := by
        apply Classical.byContradiction
        intro q
        rw [bt_hi hT (by omega)] at hc
        omega
      have := a1 c
      rw [if_neg (by omega)] at this
      exact ⟨by omega, (u.1 c (by omega)).2⟩
    · rw [bt_or]
      have l1 := bt_le sv j
      have l2 := bt_le sc j
      rcases u.2.2 j hj with v | ⟨c, v1, v2⟩
      · exact Or.inl (by omega)
      · by_cases q : c = k
        · rw [q] at v2
          have := (hsc j).mpr v2
          exact Or.inl (by omega)
        · have := a1 c
          rw [if_neg q] at this
          exact Or.inr ⟨c, by omega, v2⟩
  rcases g with ⟨g1, g2⟩ | ⟨T, g1, g2, g3⟩
  · refine Or.inl ⟨g1, fun U u => ?_⟩
    obtain ⟨T, t1, t2⟩ := dn U u
    exact g2 T t1
  · refine Or.inr ⟨T + 2 ^ k, up T g1, by rw [g2]; omega, fun U u => ?_⟩
    obtain ⟨T2, t1, t2⟩ := dn U u
    have := g3 T2 t1
    omega
end SK
