section ST3
variable {d k : Nat} {Q : Option Value → am_W → Prop} {pc : Nat} {ls : am_L} {st : List Value} {w w0 : am_W} {len : Nat} {T : List ab_C} {sets : List (List Nat)} {wr : ab_wT}
theorem s_al {p n : Nat} {lo hi : Int} (hJ : ab_J T sets wr w0 w) (u : Nat) (hf : am_find (am_code k) pc = some (.arraylength, len)) (hu : pc + 1 = u) (hT : T[p]? = some (.inl (0, n, lo, hi))) (hp : Nat.blt p am_B = true) (hn : n < 2147483648) (h : ∀ x : Int32, x.toInt = n → aw none d k Q (u, ls, .int x :: st) w) : aw none d k Q (pc, ls, .ref p :: st) w := by
  subst hu
  obtain ⟨q, w1, hq⟩ := hJ.1.2 _ _ hT
  rcases hq with ⟨-, l, rfl, f1, f2⟩ | ⟨h1, -⟩ | ⟨h1, -⟩ | h1
  · refine aw_step hf (f1 := (pc + 1, ls, .int (Int32.ofNat l.length) :: st)) (w1 := w) ?_ (h _ (by rw [f1]; exact Int32.toInt_ofNat_of_lt (by omega)))
    show am_alen none (pc + 1) ls (.ref p :: st) w = _
    have e : am_ints none w p = some l := by unfold am_ints; rw [hp, w1]; rfl
    unfold am_alen
    simp only
    rw [w1]
    simp only
    rw [e]
    rfl
  all_goals cases h1
end ST3
theorem q_bc64 {d : Nat} {w : am_W} (x : Int64) : aw none d 188 (fun r w1 => w = w1 ∧ ∃ b : Int32, r = some (.int b) ∧ b.toInt = cnt (n64 x) 64) (0, am_entry 188 [.long x], []) w := by
  show aw none d 188 _ (0, [some (.long x), none], []) w
  refine aw_step (f1 := (1, [some (.long x), none], [(.long x)])) (w1 := w) rfl rfl ?_
  refine aw_step (f1 := (2, [some (.long x), none], [(.long x), (.long x)])) (w1 := w) rfl rfl ?_
  refine s_i (pc1 := 3) (ls1 := [some (.long x), none]) (st1 := [(.long x), (.long x)]) rfl rfl fun x1 e2 => ?_
  have e2t : x1.toInt = 1 := by rw [e2]; rfl
  refine s_l (pc1 := 4) (ls1 := [some (.long x), none]) (st1 := [(.long x)]) rfl rfl fun y3 e4 => ?_
  have e4 : y3 = (x.toUInt64 >>> (x1.toInt64.toUInt64 &&& Int64.toUInt64 63)).toInt64 := e4
  refine s_l (pc1 := 7) (ls1 := [some (.long x), none]) (st1 := [(.long y3), (.long x)]) rfl rfl fun y5 e6 => ?_
  have e6t : y5.toInt = 6148914691236517205 := by rw [e6]; rfl
  refine s_l (pc1 := 8) (ls1 := [some (.long x), none]) (st1 := [(.long x)]) rfl rfl fun y7 e8 => ?_
  have e8 : y7 = y3 &&& y5 := e8
  refine s_l (pc1 := 9) (ls1 := [some (.long x), none]) (st1 := []) rfl rfl fun y9 e10 => ?_
  have e10 : y9 = x - y7 := e10
  refine aw_step (f1 := (10, [some (.long y9), none], [])) (w1 := w) rfl rfl ?_
  refine aw_step (f1 := (11, [some (.long y9), none], [(.long y9)])) (w1 := w) rfl rfl ?_
  refine s_l (pc1 := 14) (ls1 := [some (.long y9), none]) (st1 := [(.long y9)]) rfl rfl fun y11 e12 => ?_
  have e12t : y11.toInt = 3689348814741910323 := by rw [e12]; rfl
  refine s_l (pc1 := 15) (ls1 := [some (.long y9), none]) (st1 := []) rfl rfl fun y13 e14 => ?_
  have e14 : y13 = y9 &&& y11 := e14
  refine aw_step (f1 := (16, [some (.long y9), none], [(.long y9), (.long y13)])) (w1 := w) rfl rfl ?_
  refine s_i (pc1 := 17) (ls1 := [some (.long y9), none]) (st1 := [(.long y9), (.long y13)]) rfl rfl fun x15 e16 => ?_
  have e16t : x15.toInt = 2 := by rw [e16]; rfl
  refine s_l (pc1 := 18) (ls1 := [some (.long y9), none]) (st1 := [(.long y13)]) rfl rfl fun y17 e18 => ?_
  have e18 : y17 = (y9.toUInt64 >>> (x15.toInt64.toUInt64 &&& Int64.toUInt64 63)).toInt64 := e18
  refine s_l (pc1 := 21) (ls1 := [some (.long y9), none]) (st1 := [(.long y17), (.long y13)]) rfl rfl fun y19 e20 => ?_
  have e20t : y19.toInt = 3689348814741910323 := by rw [e20]; rfl
  refine s_l (pc1 := 22) (ls1 := [some (.long y9), none]) (st1 := [(.long y13)]) rfl rfl fun y21 e22 => ?_
  have e22 : y21 = y17 &&& y19 := e22
  refine s_l (pc1 := 23) (ls1 := [some (.long y9), none]) (st1 := []) rfl rfl fun y23 e24 => ?_
  have e24 : y23 = y13 + y21 := e24
  refine aw_step (f1 := (24, [some (.long y23), none], [])) (w1 := w) rfl rfl ?_
  refine aw_step (f1 := (25, [some (.long y23), none], [(.long y23)])) (w1 := w) rfl rfl ?_
  refine aw_step (f1 := (26, [some (.long y23), none], [(.long y23), (.long y23)])) (w1 := w) rfl rfl ?_
  refine s_i (pc1 := 27) (ls1 := [some (.long y23), none]) (st1 := [(.long y23), (.long y23)]) rfl rfl fun x25 e26 => ?_
  have e26t : x25.toInt = 4 := by rw [e26]; rfl
  refine s_l (pc1 := 28) (ls1 := [some (.long y23), none]) (st1 := [(.long y23)]) rfl rfl fun y27 e28 => ?_
  have e28 : y27 = (y23.toUInt64 >>> (x25.toInt64.toUInt64 &&& Int64.toUInt64 63)).toInt64 := e28
  refine s_l (pc1 := 29) (ls1 := [some (.long y23), none]) (st1 := []) rfl rfl fun y29 e30 => ?_
  have e30 : y29 = y23 + y27 := e30
  refine s_l (pc1 := 32) (ls1 := [some (.long y23), none]) (st1 := [(.long y29)]) rfl rfl fun y31 e32 => ?_
  have e32t : y31.toInt = 1085102592571150095 := by rw [e32]; rfl
  refine s_l (pc1 := 33) (ls1 := [some (.long y23), none]) (st1 := []) rfl rfl fun y33 e34 => ?_
  have e34 : y33 = y29 &&& y31 := e34
  refine aw_step (f1 := (34, [some (.long y33), none], [])) (w1 := w) rfl rfl ?_
  refine aw_step (f1 := (35, [some (.long y33), none], [(.long y33)])) (w1 := w) rfl rfl ?_
  refine aw_step (f1 := (36, [some (.long y33), none], [(.long y33), (.long y33)])) (w1 := w) rfl rfl ?_
  refine s_i (pc1 := 38) (ls1 := [some (.long y33), none]) (st1 := [(.long y33), (.long y33)]) rfl rfl fun x35 e36 => ?_
  have e36t : x35.toInt = 8 := by rw [e36]; rfl
  refine s_l (pc1 := 39) (ls1 := [some (.long y33), none]) (st1 := [(.long y33)]) rfl rfl fun y37 e38 => ?_
  have e38 : y37 = (y33.toUInt64 >>> (x35.toInt64.toUInt64 &&& Int64.toUInt64 63)).toInt64 := e38
  refine s_l (pc1 := 40) (ls1 := [some (.long y33), none]) (st1 := []) rfl rfl fun y39 e40 => ?_
  have e40 : y39 = y33 + y37 := e40
  refine aw_step (f1 := (41, [some (.long y39), none], [])) (w1 := w) rfl rfl ?_
  refine aw_step (f1 := (42, [some (.long y39), none], [(.long y39)])) (w1 := w) rfl rfl ?_
  refine aw_step (f1 := (43, [some (.long y39), none], [(.long y39), (.long y39)])) (w1 := w) rfl rfl ?_
  refine s_i (pc1 := 45) (ls1 := [some (.long y39), none]) (st1 := [(.long y39), (.long y39)]) rfl rfl fun x41 e42 => ?_
  have e42t : x41.toInt = 16 := by rw [e42]; rfl
  refine s_l (pc1 := 46) (ls1 := [some (.long y39), none]) (st1 := [(.long y39)]) rfl rfl fun y43 e44 => ?_
  have e44 : y43 = (y39.toUInt64 >>> (x41.toInt64.toUInt64 &&& Int64.toUInt64 63)).toInt64 := e44
  refine s_l (pc1 := 47) (ls1 := [some (.long y39), none]) (st1 := []) rfl rfl fun y45 e46 => ?_
  have e46 : y45 = y39 + y43 := e46
  refine aw_step (f1 := (48, [some (.long y45), none], [])) (w1 := w) rfl rfl ?_
  refine aw_step (f1 := (49, [some (.long y45), none], [(.long y45)])) (w1 := w) rfl rfl ?_
  refine aw_step (f1 := (50, [some (.long y45), none], [(.long y45), (.long y45)])) (w1 := w) rfl rfl ?_
  refine s_i (pc1 := 52) (ls1 := [some (.long y45), none]) (st1 := [(.long y45), (.long y45)]) rfl rfl fun x47 e48 => ?_
  have e48t : x47.toInt = 32 := by rw [e48]; rfl
  refine s_l (pc1 := 53) (ls1 := [some (.long y45), none]) (st1 := [(.long y45)]) rfl rfl fun y49 e50 => ?_
  have e50 : y49 = (y45.toUInt64 >>> (x47.toInt64.toUInt64 &&& Int64.toUInt64 63)).toInt64 := e50
  refine s_l (pc1 := 54) (ls1 := [some (.long y45), none]) (st1 := []) rfl rfl fun y51 e52 => ?_
  have e52 : y51 = y45 + y49 := e52
  refine aw_step (f1 := (55, [some (.long y51), none], [])) (w1 := w) rfl rfl ?_
  refine aw_step (f1 := (56, [some (.long y51), none], [(.long y51)])) (w1 := w) rfl rfl ?_
  refine s_i (pc1 := 57) (ls1 := [some (.long y51), none]) (st1 := []) rfl rfl fun x53 e54 => ?_
  have e54 : x53 = y51.toInt32 := e54
  refine s_i (pc1 := 59) (ls1 := [some (.long y51), none]) (st1 := [(.int x53)]) rfl rfl fun x55 e56 => ?_
  have e56t : x55.toInt = 127 := by rw [e56]; rfl
  refine s_i (pc1 := 60) (ls1 := [some (.long y51), none]) (st1 := []) rfl rfl fun x57 e58 => ?_
  have e58 : x57 = x53 &&& x55 := e58
  refine aw_ret (v := some (.int x57)) rfl rfl ?_
  have s1 : n64 y3 = n64 x / 2 := by rw [e4, n64_ushr (by omega) (by omega), e2t]; rfl
  have s2 : n64 y7 = n64 x / 2 &&& 6148914691236517205 := by rw [e8, n64_and, s1, n64_c e6t (by decide)]; rfl
  have b := S_b (n64 x) (n64_lt x)
  have b2 := b.2
  have s3 : n64 y9 = S1 6148914691236517205 (n64 x) := by rw [e10, n64_sub (by rw [s2]; exact b.1), s2]; rfl
  have s4 : n64 y13 = n64 y9 &&& 3689348814741910323 := by rw [e14, n64_and, n64_c e12t (by decide)]; rfl
  have s5 : n64 y17 = n64 y9 / 4 := by rw [e18, n64_ushr (by omega) (by omega), e16t]; rfl
  have s6 : n64 y21 = n64 y9 / 4 &&& 3689348814741910323 := by rw [e22, n64_and, s5, n64_c e20t (by decide)]; rfl
  have s7 : n64 y23 = S2 3689348814741910323 (n64 y9) := by rw [e24, n64_add (by rw [s4, s6, s3]; omega), s4, s6]; rfl
  have s7b : n64 y23 < 9223372036854775808 := by rw [s7, s3]; exact b2
  have s8 : n64 y27 = n64 y23 / 16 := by rw [e28, n64_ushr (by omega) (by omega), e26t]; rfl
  have s9 : n64 y29 = n64 y23 + n64 y23 / 16 := by rw [e30, n64_add (by rw [s8]; omega), s8]
  have s10 : n64 y33 = S3 1085102592571150095 (n64 y23) := by rw [e34, n64_and, s9, n64_c e32t (by decide)]; rfl
  obtain ⟨B, L⟩ := bcN (n64 x) (n64 y33) (by rw [s10, s7, s3])
  have s11 : n64 y37 = n64 y33 / 256 := by rw [e38, n64_ushr (by omega) (by omega), e36t]; rfl
  have s12 : n64 y39 = n64 y33 + n64 y33 / 256 := by rw [e40, n64_add (by rw [s11]; omega), s11]
  have s13 : n64 y43 = n64 y39 / 65536 := by rw [e44, n64_ushr (by omega) (by omega), e42t]; rfl
  have s14 : n64 y45 = n64 y39 + n64 y39 / 65536 := by rw [e46, n64_add (by rw [s13]; omega), s13]
  have s15 : n64 y49 = n64 y45 / 4294967296 := by rw [e50, n64_ushr (by omega) (by omega), e48t]; rfl
  have s16 : n64 y51 = n64 y45 + n64 y45 / 4294967296 := by rw [e52, n64_add (by rw [s15]; omega), s15]
  exact ⟨rfl, x57, rfl, by rw [e58, e54, l2i_127 _ e56t, s16, s14, s12, B]⟩
noncomputable def u32 (x : Int32) (k : Int32) : Int32 := (x.toUInt32 >>> (k.toUInt32 &&& Int32.toUInt32 31)).toInt32
noncomputable def bc32a (x : Int32) : Int32 := x - (u32 x 1 &&& 1431655765)
noncomputable def bc32b (x : Int32) : Int32 := (x &&& 858993459) + (u32 x 2 &&& 858993459)
noncomputable def bc32c (x : Int32) : Int32 := (x + u32 x 4) &&& 252645135
noncomputable def bc32f (x : Int32) : Int32 := ((bc32c (bc32b (bc32a x)) + u32 (bc32c (bc32b (bc32a x))) 8) + u32 (bc32c (bc32b (bc32a x)) + u32 (bc32c (bc32b (bc32a x))) 8) 16) &&& 63
set_option maxRecDepth 100000 in
theorem t_bc32 : ∀ n, n < 16 → (bc32f (Int32.ofNat n)).toInt = cnt n 64 := by decide +kernel
set_option maxRecDepth 100000 in
theorem q_bc32 {d : Nat} {w : am_W} (x : Int32) (h0 : 0 ≤ x.toInt) (h1 : x.toInt ≤ 15) : aw none d 187 (fun r w1 => w = w1 ∧ ∃ b : Int32, r = some (.int b) ∧ b.toInt = cnt x.toInt.toNat 64) (0, am_entry 187 [.int x], []) w := by
  show aw none d 187 _ (0, [some (.int x)], []) w
  refine aw_step (f1 := (1, [some (.int x)], [(.int x)])) (w1 := w) rfl rfl ?_
  refine aw_step (f1 := (2, [some (.int x)], [(.int x), (.int x)])) (w1 := w) rfl rfl ?_
  refine s_i (pc1 := 3) (ls1 := [some (.int x)]) (st1 := [(.int x), (.int x)]) rfl rfl fun x1 e2 => ?_
  have e2t : x1.toInt = 1 := by rw [e2]; rfl
  refine s_i (pc1 := 4) (ls1 := [some (.int x)]) (st1 := [(.int x)]) rfl rfl fun x3 e4 => ?_
  have e4 : x3 = (x.toUInt32 >>> (x1.toUInt32 &&& Int32.toUInt32 31)).toInt32 := e4
  refine s_i (pc1 := 7) (ls1 := [some (.int x)]) (st1 := [(.int x3), (.int x)]) rfl rfl fun x5 e6 => ?_
  have e6t : x5.toInt = 1431655765 := by rw [e6]; rfl
  refine s_i (pc1 := 8) (ls1 := [some (.int x)]) (st1 := [(.int x)]) rfl rfl fun x7 e8 => ?_
  have e8 : x7 = x3 &&& x5 := e8
  refine s_i (pc1 := 9) (ls1 := [some (.int x)]) (st1 := []) rfl rfl fun x9 e10 => ?_
  have e10 : x9 = x - x7 := e10
  --
  refine aw_step (f1 := (10, [some (.int x9)], [])) (w1 := w) rfl rfl ?_
  refine aw_step (f1 := (11, [some (.int x9)], [(.int x9)])) (w1 := w) rfl rfl ?_
  refine s_i (pc1 := 14) (ls1 := [some (.int x9)]) (st1 := [(.int x9)]) rfl rfl fun x11 e12 => ?_
  have e12t : x11.toInt = 858993459 := by rw [e12]; rfl
  refine s_i (pc1 := 15) (ls1 := [some (.int x9)]) (st1 := []) rfl rfl fun x13 e14 => ?_
  have e14 : x13 = x9 &&& x11 := e14
  refine aw_step (f1 := (16, [some (.int x9)], [(.int x9), (.int x13)])) (w1 := w) rfl rfl ?_
  refine s_i (pc1 := 17) (ls1 := [some (.int x9)]) (st1 := [(.int x9), (.int x13)]) rfl rfl fun x15 e16 => ?_
  have e16t : x15.toInt = 2 := by rw [e16]; rfl
  refine s_i (pc1 := 18) (ls1 := [some (.int x9)]) (st1 := [(.int x13)]) rfl rfl fun x17 e18 => ?_
  have e18 : x17 = (x9.toUInt32 >>> (x15.toUInt32 &&& Int32.toUInt32 31)).toInt32 := e18
  refine s_i (pc1 := 21) (ls1 := [some (.int x9)]) (st1 := [(.int x17), (.int x13)]) rfl rfl fun x19 e20 => ?_
  have e20t : x19.toInt = 858993459 := by rw [e20]; rfl
  refine s_i (pc1 := 22) (ls1 := [some (.int x9)]) (st1 := [(.int x13)]) rfl rfl fun x21 e22 => ?_
  have e22 : x21 = x17 &&& x19 := e22
  refine s_i (pc1 := 23) (ls1 := [some (.int x9)]) (st1 := []) rfl rfl fun x23 e24 => ?_
  have e24 : x23 = x13 + x21 := e24
  --
  refine aw_step (f1 := (24, [some (.int x23)], [])) (w1 := w) rfl rfl ?_
  refine aw_step (f1 := (25, [some (.int x23)], [(.int x23)])) (w1 := w) rfl rfl ?_
  refine aw_step (f1 := (26, [some (.int x23)], [(.int x23), (.int x23)])) (w1 := w) rfl rfl ?_
  refine s_i (pc1 := 27) (ls1 := [some (.int x23)]) (st1 := [(.int x23), (.int x23)]) rfl rfl fun x25 e26 => ?_
  have e26t : x25.toInt = 4 := by rw [e26]; rfl
  refine s_i (pc1 := 28) (ls1 := [some (.int x23)]) (st1 := [(.int x23)]) rfl rfl fun x27 e28 => ?_
  have e28 : x27 = (x23.toUInt32 >>> (x25.toUInt32 &&& Int32.toUInt32 31)).toInt32 := e28
  refine s_i (pc1 := 29) (ls1 := [some (.int x23)]) (st1 := []) rfl rfl fun x29 e30 => ?_
  have e30 : x29 = x23 + x27 := e30
  refine s_i (pc1 := 32) (ls1 := [some (.int x23)]) (st1 := [(.int x29)]) rfl rfl fun x31 e32 => ?_
  have e32t : x31.toInt = 252645135 := by rw [e32]; rfl
  refine s_i (pc1 := 33) (ls1 := [some (.int x23)]) (st1 := []) rfl rfl fun x33 e34 => ?_
  have e34 : x33 = x29 &&& x31 := e34
  --
  refine aw_step (f1 := (34, [some (.int x33)], [])) (w1 := w) rfl rfl ?_
  refine aw_step (f1 := (35, [some (.int x33)], [(.int x33)])) (w1 := w) rfl rfl ?_
  refine aw_step (f1 := (36, [some (.int x33)], [(.int x33), (.int x33)])) (w1 := w) rfl rfl ?_
  refine s_i (pc1 := 38) (ls1 := [some (.int x33)]) (st1 := [(.int x33), (.int x33)]) rfl rfl fun x35 e36 => ?_
  have e36t : x35.toInt = 8 := by rw [e36]; rfl
  refine s_i (pc1 := 39) (ls1 := [some (.int x33)]) (st1 := [(.int x33)]) rfl rfl fun x37 e38 => ?_
  have e38 : x37 = (x33.toUInt32 >>> (x35.toUInt32 &&& Int32.toUInt32 31)).toInt32 := e38
  refine s_i (pc1 := 40) (ls1 := [some (.int x33)]) (st1 := []) rfl rfl fun x39 e40 => ?_
  have e40 : x39 = x33 + x37 := e40
  --
  refine aw_step (f1 := (41, [some (.int x39)], [])) (w1 := w) rfl rfl ?_
  refine aw_step (f1 := (42, [some (.int x39)], [(.int x39)])) (w1 := w) rfl rfl ?_
  refine aw_step (f1 := (43, [some (.int x39)], [(.int x39), (.int x39)])) (w1 := w) rfl rfl ?_
  refine s_i (pc1 := 45) (ls1 := [some (.int x39)]) (st1 := [(.int x39), (.int x39)]) rfl rfl fun x41 e42 => ?_
  have e42t : x41.toInt = 16 := by rw [e42]; rfl
  refine s_i (pc1 := 46) (ls1 := [some (.int x39)]) (st1 := [(.int x39)]) rfl rfl fun x43 e44 => ?_
  have e44 : x43 = (x39.toUInt32 >>> (x41.toUInt32 &&& Int32.toUInt32 31)).toInt32 := e44
  refine s_i (pc1 := 47) (ls1 := [some (.int x39)]) (st1 := []) rfl rfl fun x45 e46 => ?_
  have e46 : x45 = x39 + x43 := e46
  --
  refine aw_step (f1 := (48, [some (.int x45)], [])) (w1 := w) rfl rfl ?_
  refine aw_step (f1 := (49, [some (.int x45)], [(.int x45)])) (w1 := w) rfl rfl ?_
  refine s_i (pc1 := 51) (ls1 := [some (.int x45)]) (st1 := [(.int x45)]) rfl rfl fun x47 e48 => ?_
  have e48t : x47.toInt = 63 := by rw [e48]; rfl
  refine s_i (pc1 := 52) (ls1 := [some (.int x45)]) (st1 := []) rfl rfl fun x49 e50 => ?_
  have e50 : x49 = x45 &&& x47 := e50
  refine aw_ret (v := some (.int x49)) rfl rfl ?_
  have s1 : x9 = bc32a x := by rw [e10, e8, e6, e4, e2]; rfl
  have s2 : x23 = bc32b x9 := by rw [e24, e22, e20, e18, e16, e14, e12]; rfl
  have s3 : x33 = bc32c x23 := by rw [e34, e32, e30, e28, e26]; rfl
  have s4 : x39 = x33 + u32 x33 8 := by rw [e40, e38, e36]; rfl
  have s5 : x45 = x39 + u32 x39 16 := by rw [e46, e44, e42]; rfl
  have s6 : x49 = x45 &&& 63 := by rw [e50, e48]; rfl
  have h := t_bc32 x.toInt.toNat (by omega)
  rw [← i32_nat h0] at h
  exact ⟨rfl, x49, rfl, by rw [s6, s5, s4, s3, s2, s1]; exact h⟩
theorem q_hasC {d : Nat} {w : am_W} (x : Int64) (c : Int32) (p0 : 0 ≤ c.toInt) (p1 : c.toInt < 64) : aw none d 105 (fun r w1 => w = w1 ∧ ∃ b : Int32, r = some (.int b) ∧ b.toInt = bt (n64 x) c.toInt.toNat) (0, am_entry 105 [.long x, .int c], []) w := by
  show aw none d 105 _ (0, [some (.long x), none, some (.int c)], []) w
  refine aw_step (f1 := (1, [some (.long x), none, some (.int c)], [(.long x)])) (w1 := w) rfl rfl ?_
  refine aw_step (f1 := (2, [some (.long x), none, some (.int c)], [(.int c), (.long x)])) (w1 := w) rfl rfl ?_
  refine s_l (pc1 := 3) (ls1 := [some (.long x), none, some (.int c)]) (st1 := []) rfl rfl fun y1 e2 => ?_
  have e2 : y1 = (x.toUInt64 >>> (c.toInt64.toUInt64 &&& Int64.toUInt64 63)).toInt64 := e2
  refine s_l (pc1 := 4) (ls1 := [some (.long x), none, some (.int c)]) (st1 := [(.long y1)]) rfl rfl fun y3 e4 => ?_
  have e4t : y3.toInt = 1 := by rw [e4]; rfl
  refine s_l (pc1 := 5) (ls1 := [some (.long x), none, some (.int c)]) (st1 := []) rfl rfl fun y5 e6 => ?_
  have e6 : y5 = y1 &&& y3 := e6
  have hb : n64 y5 = bt (n64 x) c.toInt.toNat := by rw [e6, e2]; exact h_bitu p0 p1 e4t
  have hz := n64_z (x := y5)
  have hle := bt_le (n64 x) c.toInt.toNat
  refine s_l (pc1 := 6) (ls1 := [some (.long x), none, some (.int c)]) (st1 := [(.long y5)]) rfl rfl fun y7 e8 => ?_
  have e8t : y7.toInt = 0 := by rw [e8]; rfl
  refine s_lc 14 10 7 rfl rfl rfl rfl rfl (fun (h9 : y5.toInt = y7.toInt) => ?_) (fun (h9 : ¬ (y5.toInt = y7.toInt)) => ?_)
  · --
    refine s_i (pc1 := 15) (ls1 := [some (.long x), none, some (.int c)]) (st1 := []) rfl rfl fun x10 e11 => ?_
    have e11t : x10.toInt = 0 := by rw [e11]; rfl
    refine aw_ret (v := some (.int x10)) rfl (am_retz (by omega)) ?_
    exact ⟨rfl, x10, rfl, by omega⟩
  · --
    refine s_i (pc1 := 11) (ls1 := [some (.long x), none, some (.int c)]) (st1 := []) rfl rfl fun x12 e13 => ?_
    have e13t : x12.toInt = 1 := by rw [e13]; rfl
    refine aw_step (f1 := (15, [some (.long x), none, some (.int c)], [(.int x12)])) (w1 := w) rfl rfl ?_
    refine aw_ret (v := some (.int x12)) rfl (am_retz (by omega)) ?_
    exact ⟨rfl, x12, rfl, by omega⟩
theorem q_bit {d : Nat} {w : am_W} (c : Int32) : aw none d 104 (fun r w1 => w = w1 ∧ ∃ y : Int64, r = some (.long y) ∧ y = 1 <<< (c.toInt64 &&& 63)) (0, am_entry 104 [.int c], []) w := by
  show aw none d 104 _ (0, [some (.int c)], []) w
  refine s_l (pc1 := 1) (ls1 := [some (.int c)]) (st1 := []) rfl rfl fun y1 e2 => ?_
  have e2t : y1.toInt = 1 := by rw [e2]; rfl
  refine aw_step (f1 := (2, [some (.int c)], [(.int c), (.long y1)])) (w1 := w) rfl rfl ?_
  refine s_l (pc1 := 3) (ls1 := [some (.int c)]) (st1 := []) rfl rfl fun y3 e4 => ?_
  have e2z : y1 = 1 := e2
  rw [e2z] at e4
  have e4 : y3 = 1 <<< (c.toInt64 &&& 63) := e4
  refine aw_ret (v := some (.long y3)) rfl rfl ?_
  exact ⟨rfl, y3, rfl, e4⟩
theorem q_isBoots {d : Nat} {w : am_W} (c : Int32) : aw none (d + 1) 103 (fun r w1 => w = w1 ∧ ∃ b : Int32, r = some (.int b) ∧ ((b.toInt = 1 ∧ 0 ≤ c.toInt ∧ c.toInt ≤ 3) ∨ (b.toInt = 0 ∧ (c.toInt < 0 ∨ 3 < c.toInt)))) (0, am_entry 103 [.int c], []) w := by
  show aw none (d + 1) 103 _ (0, [some (.int c)], []) w
  refine aw_step (f1 := (1, [some (.int c)], [(.int c)])) (w1 := w) rfl rfl ?_
  refine s_i (pc1 := 2) (ls1 := [some (.int c)]) (st1 := [(.int c)]) rfl rfl fun x1 e2 => ?_
  have e2t : x1.toInt = 0 := by rw [e2]; rfl
  refine s_i (pc1 := 3) (ls1 := [some (.int c)]) (st1 := [(.int x1), (.int c)]) rfl rfl fun x3 e4 => ?_
  have e4t : x3.toInt = 3 := by rw [e4]; rfl
  refine s_cs (z := 102) (as := [(.int c), (.int x1), (.int x3)]) (st1 := []) 6 rfl rfl rfl rfl rfl rfl (Nat.le_of_ble_eq_true rfl) (Nat.le_of_ble_eq_true rfl) (Nat.le_of_ble_eq_true rfl) (q_within c x1 x3) ?_
  rintro _ _ ⟨rfl, x5, rfl, x5t⟩
  refine ⟨rfl, ?_⟩
  show aw none _ 103 _ (6, [some (.int c)], [(.int x5)]) w
  refine aw_ret (v := some (.int x5)) rfl (am_retz (by omega)) ?_
  exact ⟨rfl, x5, rfl, by omega⟩
theorem q_isDry {d : Nat} {w : am_W} {V : Nat → Int} (R : RCs w 3 V) (c : Int32) (I : ab_inv ab_TT ab_sets w) : aw none (d + 2) 40 (fun r w1 => w = w1 ∧ ∃ b : Int32, r = some (.int b) ∧ ((b.toInt = 1 ∧ 0 ≤ c.toInt ∧ c.toInt < szV V ∧ V (40 + c.toInt.toNat) ≠ 126) ∨ (b.toInt = 0 ∧ (c.toInt < 0 ∨ szV V ≤ c.toInt ∨ V (40 + c.toInt.toNat) = 126)))) (0, am_entry 40 [.ref 3, .int c], []) w := by
  have J : ab_J ab_TT ab_sets ab_WR2 w w := ⟨I, ab_fr.rf⟩
  have sz := szC_in I
  have hs := R.sz
  show aw none (d + 2) 40 _ (0, [some (.ref 3), some (.int c)], []) w
  refine aw_step (f1 := (1, [some (.ref 3), some (.int c)], [(.ref 3)])) (w1 := w) rfl rfl ?_
  refine aw_step (f1 := (2, [some (.ref 3), some (.int c)], [(.int c), (.ref 3)])) (w1 := w) rfl rfl ?_
  refine s_cv (z := 39) (p := 3) (as := [(.int c)]) (st1 := []) J 5 rfl rfl rfl rfl rfl rfl rfl rfl (Nat.le_of_ble_eq_true rfl) (Nat.le_of_ble_eq_true rfl) (q_hasCell c J.1) ?_
  rintro _ _ ⟨rfl, x1, rfl, x1t⟩
  refine ⟨rfl, ?_⟩
  show aw none _ 40 _ (5, [some (.ref 3), some (.int c)], [(.int x1)]) w
  refine s_if 23 8 rfl rfl rfl (fun (h2 : x1.toInt = 0) => ?_) (fun (h2 : ¬ (x1.toInt = 0)) => ?_)
  · --
    refine s_i (pc1 := 24) (ls1 := [some (.ref 3), some (.int c)]) (st1 := []) rfl rfl fun x3 e4 => ?_
    have e4t : x3.toInt = 0 := by rw [e4]; rfl
    refine aw_ret (v := some (.int x3)) rfl (am_retz (by omega)) ?_
    exact ⟨rfl, x3, rfl, by omega⟩
  · --
    refine aw_step (f1 := (9, [some (.ref 3), some (.int c)], [(.ref 3)])) (w1 := w) rfl rfl ?_
    refine s_gl J 12 rfl rfl rfl rfl rfl rfl fun y5 y5a y5b y5f => ?_
    have hd := R.2.2 c.toInt.toNat
    rw [fL_of y5f] at hd
    refine aw_step (f1 := (13, [some (.ref 3), some (.int c)], [(.int c), (.long y5)])) (w1 := w) rfl rfl ?_
    refine s_cs (z := 105) (as := [(.long y5), (.int c)]) (st1 := []) 16 rfl rfl rfl rfl rfl rfl (Nat.le_of_ble_eq_true rfl) (Nat.le_of_ble_eq_true rfl) (Nat.le_of_ble_eq_true rfl) (q_hasC y5 c (by omega) (by omega)) ?_
    rintro _ _ ⟨rfl, x6, rfl, x6t⟩
    refine ⟨rfl, ?_⟩
    show aw none _ 40 _ (16, [some (.ref 3), some (.int c)], [(.int x6)]) w
    have x6l := bt_le (n64 y5) c.toInt.toNat
    refine s_if 23 19 rfl rfl rfl (fun (h7 : x6.toInt = 0) => ?_) (fun (h7 : ¬ (x6.toInt = 0)) => ?_)
    · --
      refine s_i (pc1 := 24) (ls1 := [some (.ref 3), some (.int c)]) (st1 := []) rfl rfl fun x8 e9 => ?_
      have e9t : x8.toInt = 0 := by rw [e9]; rfl
      refine aw_ret (v := some (.int x8)) rfl (am_retz (by omega)) ?_
      exact ⟨rfl, x8, rfl, by omega⟩
    · --
      refine s_i (pc1 := 20) (ls1 := [some (.ref 3), some (.int c)]) (st1 := []) rfl rfl fun x10 e11 => ?_
      have e11t : x10.toInt = 1 := by rw [e11]; rfl
      refine aw_step (f1 := (24, [some (.ref 3), some (.int c)], [(.int x10)])) (w1 := w) rfl rfl ?_
      refine aw_ret (v := some (.int x10)) rfl (am_retz (by omega)) ?_
      exact ⟨rfl, x10, rfl, by omega⟩
noncomputable def po (x p : Int) : Int := ((x.toNat ||| 2 ^ p.toNat : Nat) : Int)
noncomputable def pa (x p : Int) : Int := ((x.toNat &&& (15 - 2 ^ p.toNat) : Nat) : Int)
set_option maxRecDepth 100000 in
theorem t_po : ∀ x, x < 16 → ∀ p, p < 4 → (Int32.ofNat x ||| (1 <<< (Int32.ofNat p &&& 31))).toInt = ((x ||| 2 ^ p : Nat) : Int) ∧ (Int32.ofNat x &&& ((1 <<< (Int32.ofNat p &&& 31)) ^^^ (-1))).toInt = ((x &&& (15 - 2 ^ p) : Nat) : Int) ∧ ((Int32.ofNat x >>> (Int32.ofNat p &&& 31)) &&& 1).toInt = ((bt x p : Nat) : Int) ∧ (x ||| 2 ^ p) < 16 ∧ (x &&& (15 - 2 ^ p)) < 16 := by decide +kernel
theorem i_po {x p : Int32} (h0 : 0 ≤ x.toInt) (h1 : x.toInt ≤ 15) (p0 : 0 ≤ p.toInt) (p1 : p.toInt ≤ 3) : (x ||| (1 <<< (p &&& 31))).toInt = po x.toInt p.toInt ∧ (x &&& ((1 <<< (p &&& 31)) ^^^ (-1))).toInt = pa x.toInt p.toInt ∧ ((x >>> (p &&& 31)) &&& 1).toInt = bt x.toInt.toNat p.toInt.toNat ∧ (0 ≤ po x.toInt p.toInt ∧ po x.toInt p.toInt ≤ 15) ∧ (0 ≤ pa x.toInt p.toInt ∧ pa x.toInt p.toInt ≤ 15) := by
  have h := t_po x.toInt.toNat (by omega) p.toInt.toNat (by omega)
  rw [← i32_nat h0, ← i32_nat p0] at h
  obtain ⟨a, b, c, e, f⟩ := h
  unfold po pa
  exact ⟨a, b, c, by omega, by omega⟩
theorem q_isThere {d : Nat} {w : am_W} {V : Nat → Int} (R : RCs w 3 V) (h6 : 0 ≤ V 6 ∧ V 6 ≤ 15) (p : Int32) (I : ab_inv ab_TT ab_sets w) : aw none (d + 1) 41 (fun r w1 => w = w1 ∧ ∃ b : Int32, r = some (.int b) ∧ ((b.toInt = 1 ∧ 0 ≤ p.toInt ∧ p.toInt ≤ 3 ∧ bt (V 6).toNat p.toInt.toNat = 1) ∨ (b.toInt = 0 ∧ ((p.toInt < 0 ∨ 3 < p.toInt) ∨ bt (V 6).toNat p.toInt.toNat = 0)))) (0, am_entry 41 [.ref 3, .int p], []) w := by
  have J : ab_J ab_TT ab_sets ab_WR2 w w := ⟨I, ab_fr.rf⟩
  have hp := R.f3
  show aw none (d + 1) 41 _ (0, [some (.ref 3), some (.int p)], []) w
  refine aw_step (f1 := (1, [some (.ref 3), some (.int p)], [(.int p)])) (w1 := w) rfl rfl ?_
  refine s_i (pc1 := 2) (ls1 := [some (.ref 3), some (.int p)]) (st1 := [(.int p)]) rfl rfl fun x1 e2 => ?_
  have e2t : x1.toInt = 0 := by rw [e2]; rfl
  refine s_i (pc1 := 3) (ls1 := [some (.ref 3), some (.int p)]) (st1 := [(.int x1), (.int p)]) rfl rfl fun x3 e4 => ?_
  have e4t : x3.toInt = 3 := by rw [e4]; rfl
  refine s_cs (z := 102) (as := [(.int p), (.int x1), (.int x3)]) (st1 := []) 6 rfl rfl rfl rfl rfl rfl (Nat.le_of_ble_eq_true rfl) (Nat.le_of_ble_eq_true rfl) (Nat.le_of_ble_eq_true rfl) (q_within p x1 x3) ?_
  rintro _ _ ⟨rfl, x5, rfl, x5t⟩
  refine ⟨rfl, ?_⟩
  show aw none _ 41 _ (6, [some (.ref 3), some (.int p)], [(.int x5)]) w
  refine s_if 24 9 rfl rfl rfl (fun (h6 : x5.toInt = 0) => ?_) (fun (h6 : ¬ (x5.toInt = 0)) => ?_)
  · --
    refine s_i (pc1 := 25) (ls1 := [some (.ref 3), some (.int p)]) (st1 := []) rfl rfl fun x7 e8 => ?_
    have e8t : x7.toInt = 0 := by rw [e8]; rfl
    refine aw_ret (v := some (.int x7)) rfl (am_retz (by omega)) ?_
    exact ⟨rfl, x7, rfl, by omega⟩
  · --
    refine aw_step (f1 := (10, [some (.ref 3), some (.int p)], [(.ref 3)])) (w1 := w) rfl rfl ?_
    refine s_gi J 13 rfl rfl rfl rfl rfl rfl fun x9 x9a x9b x9f => ?_
    refine aw_step (f1 := (14, [some (.ref 3), some (.int p)], [(.int p), (.int x9)])) (w1 := w) rfl rfl ?_
    --
    refine s_i (pc1 := 15) (ls1 := [some (.ref 3), some (.int p)]) (st1 := []) rfl rfl fun x10 e11 => ?_
    have e11 : x10 = x9 >>> (p &&& 31) := e11
    --
    refine s_i (pc1 := 16) (ls1 := [some (.ref 3), some (.int p)]) (st1 := [(.int x10)]) rfl rfl fun x12 e13 => ?_
    have e13t : x12.toInt = 1 := by rw [e13]; rfl
    --
    refine s_i (pc1 := 17) (ls1 := [some (.ref 3), some (.int p)]) (st1 := []) rfl rfl fun x14 e15 => ?_
    have e15 : x14 = x10 &&& x12 := e15
    have hq := (i_po (x := x9) (p := p) (by have := fI_of x9f; omega) (by have := fI_of x9f; omega) (by omega) (by omega)).2.2.1
    have hx : x14 = (x9 >>> (p &&& 31)) &&& 1 := by rw [e15, e11, show x12 = 1 from n_1 (by omega)]
    rw [← hx] at hq
    have h3 := fI_of x9f
    rw [show x9.toInt = V 6 by omega] at hq
    have hle := bt_le (V 6).toNat p.toInt.toNat
    refine s_if 24 20 rfl rfl rfl (fun (h16 : x14.toInt = 0) => ?_) (fun (h16 : ¬ (x14.toInt = 0)) => ?_)
    · --
      refine s_i (pc1 := 25) (ls1 := [some (.ref 3), some (.int p)]) (st1 := []) rfl rfl fun x17 e18 => ?_
      have e18t : x17.toInt = 0 := by rw [e18]; rfl
      refine aw_ret (v := some (.int x17)) rfl (am_retz (by omega)) ?_
      exact ⟨rfl, x17, rfl, by omega⟩
    · --
      refine s_i (pc1 := 21) (ls1 := [some (.ref 3), some (.int p)]) (st1 := []) rfl rfl fun x19 e20 => ?_
      have e20t : x19.toInt = 1 := by rw [e20]; rfl
      refine aw_step (f1 := (25, [some (.ref 3), some (.int p)], [(.int x19)])) (w1 := w) rfl rfl ?_
      refine aw_ret (v := some (.int x19)) rfl (am_retz (by omega)) ?_
      exact ⟨rfl, x19, rfl, by omega⟩
theorem q_put7 {d : Nat} {w : am_W} (i v : Int32) (hi : 0 ≤ i.toInt ∧ i.toInt < 4) (hv : 1 ≤ v.toInt ∧ v.toInt ≤ 50) (I : ab_inv ab_TT ab_sets w) : aw none (d + 1) 99 (fun r w1 => ∃ b : Int32, r = some (.int b) ∧ ab_J ab_TT ab_sets ab_WR2 w w1 ∧ b.toInt = rI w 7 i.toInt.toNat ∧ only [7] w w1 ∧ rI w1 7 i.toInt.toNat = v.toInt ∧ ∀ k, k ≠ i.toInt.toNat → rI w1 7 k = rI w 7 k) (0, am_entry 99 [.ref 7, .int i, .int v], []) w := by
  have J : ab_J ab_TT ab_sets ab_WR2 w w := ⟨I, ab_fr.rf⟩
  show aw none (d + 1) 99 _ (0, [some (.ref 7), some (.int i), some (.int v), none], []) w
  refine aw_step (f1 := (1, [some (.ref 7), some (.int i), some (.int v), none], [(.int i)])) (w1 := w) rfl rfl ?_
  refine s_i (pc1 := 2) (ls1 := [some (.ref 7), some (.int i), some (.int v), none]) (st1 := [(.int i)]) rfl rfl fun x1 e2 => ?_
  have e2t : x1.toInt = 0 := by rw [e2]; rfl
  refine aw_step (f1 := (3, [some (.ref 7), some (.int i), some (.int v), none], [(.ref 7), (.int x1), (.int i)])) (w1 := w) rfl rfl ?_
  refine s_al J 4 rfl rfl rfl rfl (by decide) fun x3 x3t => ?_
  refine s_i (pc1 := 5) (ls1 := [some (.ref 7), some (.int i), some (.int v), none]) (st1 := [(.int x3), (.int x1), (.int i)]) rfl rfl fun x4 e5 => ?_
  have e5t : x4.toInt = 1 := by rw [e5]; rfl
  refine s_i (pc1 := 6) (ls1 := [some (.ref 7), some (.int i), some (.int v), none]) (st1 := [(.int x1), (.int i)]) rfl rfl fun x6 e7 => ?_
  have e7 : x6 = x3 - x4 := e7
  have e7t : x6.toInt = x3.toInt - x4.toInt := by rw [e7]; exact n_sub (by omega) (by omega)
  refine s_cs (z := 102) (as := [(.int i), (.int x1), (.int x6)]) (st1 := []) 9 rfl rfl rfl rfl rfl rfl (Nat.le_of_ble_eq_true rfl) (Nat.le_of_ble_eq_true rfl) (Nat.le_of_ble_eq_true rfl) (q_within i x1 x6) ?_
  rintro _ _ ⟨rfl, x8, rfl, x8t⟩
  refine ⟨rfl, ?_⟩
  show aw none _ 99 _ (9, [some (.ref 7), some (.int i), some (.int v), none], [(.int x8)]) w
  refine s_if 14 12 rfl rfl rfl (fun (h9 : ¬ x8.toInt = 0) => ?_) (fun (h9 : ¬ (¬ x8.toInt = 0)) => ?_)
  · --
    refine aw_step (f1 := (15, [some (.ref 7), some (.int i), some (.int v), none], [(.ref 7)])) (w1 := w) rfl rfl ?_
    refine aw_step (f1 := (16, [some (.ref 7), some (.int i), some (.int v), none], [(.int i), (.ref 7)])) (w1 := w) rfl rfl ?_
    refine s_ia J 17 rfl rfl rfl rfl (by omega) (by omega) fun x10 x10a x10b x10f => ?_
    have x10v : x10.toInt = rI w 7 i.toInt.toNat := by rw [← rI_of x10f]
    refine aw_step (f1 := (18, [some (.ref 7), some (.int i), some (.int v), some (.int x10)], [])) (w1 := w) rfl rfl ?_
    refine aw_step (f1 := (19, [some (.ref 7), some (.int i), some (.int v), some (.int x10)], [(.ref 7)])) (w1 := w) rfl rfl ?_
    refine aw_step (f1 := (20, [some (.ref 7), some (.int i), some (.int v), some (.int x10)], [(.int i), (.ref 7)])) (w1 := w) rfl rfl ?_
    refine aw_step (f1 := (21, [some (.ref 7), some (.int i), some (.int v), some (.int x10)], [(.int v), (.int i), (.ref 7)])) (w1 := w) rfl rfl ?_
    refine s_is J 22 rfl rfl rfl rfl (by omega) (by omega) (by omega) (by omega) fun w11 J12 w11e => ?_
    have w11f := rI_st J.1 (p := 7) (j := i.toInt.toNat) rfl (by omega) w11e
    refine aw_step (f1 := (23, [some (.ref 7), some (.int i), some (.int v), some (.int x10)], [(.int x10)])) (w1 := w11) rfl rfl ?_
    refine aw_ret (v := some (.int x10)) rfl rfl ?_
    exact ⟨x10, rfl, J12, (rI_of x10f).symm, w11f⟩
  · --
    refine s_i (pc1 := 13) (ls1 := [some (.ref 7), some (.int i), some (.int v), none]) (st1 := []) rfl rfl fun x13 e14 => ?_
    have e14t : x13.toInt = -1 := by rw [e14]; rfl
    refine aw_ret (v := some (.int x13)) rfl rfl ?_
    exfalso; omega
theorem q_put8 {d : Nat} {w : am_W} (i v : Int32) (hi : 0 ≤ i.toInt ∧ i.toInt < 4) (hv : 0 ≤ v.toInt ∧ v.toInt ≤ 99) (I : ab_inv ab_TT ab_sets w) : aw none (d + 1) 99 (fun r w1 => ∃ b : Int32, r = some (.int b) ∧ ab_J ab_TT ab_sets ab_WR2 w w1 ∧ b.toInt = rI w 8 i.toInt.toNat ∧ only [8] w w1 ∧ rI w1 8 i.toInt.toNat = v.toInt ∧ ∀ k, k ≠ i.toInt.toNat → rI w1 8 k = rI w 8 k) (0, am_entry 99 [.ref 8, .int i, .int v], []) w := by
  have J : ab_J ab_TT ab_sets ab_WR2 w w := ⟨I, ab_fr.rf⟩
  show aw none (d + 1) 99 _ (0, [some (.ref 8), some (.int i), some (.int v), none], []) w
  refine aw_step (f1 := (1, [some (.ref 8), some (.int i), some (.int v), none], [(.int i)])) (w1 := w) rfl rfl ?_
  refine s_i (pc1 := 2) (ls1 := [some (.ref 8), some (.int i), some (.int v), none]) (st1 := [(.int i)]) rfl rfl fun x1 e2 => ?_
  have e2t : x1.toInt = 0 := by rw [e2]; rfl
  refine aw_step (f1 := (3, [some (.ref 8), some (.int i), some (.int v), none], [(.ref 8), (.int x1), (.int i)])) (w1 := w) rfl rfl ?_
  refine s_al J 4 rfl rfl rfl rfl (by decide) fun x3 x3t => ?_
  refine s_i (pc1 := 5) (ls1 := [some (.ref 8), some (.int i), some (.int v), none]) (st1 := [(.int x3), (.int x1), (.int i)]) rfl rfl fun x4 e5 => ?_
  have e5t : x4.toInt = 1 := by rw [e5]; rfl
  refine s_i (pc1 := 6) (ls1 := [some (.ref 8), some (.int i), some (.int v), none]) (st1 := [(.int x1), (.int i)]) rfl rfl fun x6 e7 => ?_
  have e7 : x6 = x3 - x4 := e7
  have e7t : x6.toInt = x3.toInt - x4.toInt := by rw [e7]; exact n_sub (by omega) (by omega)
  refine s_cs (z := 102) (as := [(.int i), (.int x1), (.int x6)]) (st1 := []) 9 rfl rfl rfl rfl rfl rfl (Nat.le_of_ble_eq_true rfl) (Nat.le_of_ble_eq_true rfl) (Nat.le_of_ble_eq_true rfl) (q_within i x1 x6) ?_
  rintro _ _ ⟨rfl, x8, rfl, x8t⟩
  refine ⟨rfl, ?_⟩
  show aw none _ 99 _ (9, [some (.ref 8), some (.int i), some (.int v), none], [(.int x8)]) w
  refine s_if 14 12 rfl rfl rfl (fun (h9 : ¬ x8.toInt = 0) => ?_) (fun (h9 : ¬ (¬ x8.toInt = 0)) => ?_)
  · --
    refine aw_step (f1 := (15, [some (.ref 8), some (.int i), some (.int v), none], [(.ref 8)])) (w1 := w) rfl rfl ?_
    refine aw_step (f1 := (16, [some (.ref 8), some (.int i), some (.int v), none], [(.int i), (.ref 8)])) (w1 := w) rfl rfl ?_
    refine s_ia J 17 rfl rfl rfl rfl (by omega) (by omega) fun x10 x10a x10b x10f => ?_
    have x10v : x10.toInt = rI w 8 i.toInt.toNat := by rw [← rI_of x10f]
    refine aw_step (f1 := (18, [some (.ref 8), some (.int i), some (.int v), some (.int x10)], [])) (w1 := w) rfl rfl ?_
    refine aw_step (f1 := (19, [some (.ref 8), some (.int i), some (.int v), some (.int x10)], [(.ref 8)])) (w1 := w) rfl rfl ?_
    refine aw_step (f1 := (20, [some (.ref 8), some (.int i), some (.int v), some (.int x10)], [(.int i), (.ref 8)])) (w1 := w) rfl rfl ?_
    refine aw_step (f1 := (21, [some (.ref 8), some (.int i), some (.int v), some (.int x10)], [(.int v), (.int i), (.ref 8)])) (w1 := w) rfl rfl ?_
    refine s_is J 22 rfl rfl rfl rfl (by omega) (by omega) (by omega) (by omega) fun w11 J12 w11e => ?_
    have w11f := rI_st J.1 (p := 8) (j := i.toInt.toNat) rfl (by omega) w11e
    refine aw_step (f1 := (23, [some (.ref 8), some (.int i), some (.int v), some (.int x10)], [(.int x10)])) (w1 := w11) rfl rfl ?_
    refine aw_ret (v := some (.int x10)) rfl rfl ?_
    exact ⟨x10, rfl, J12, (rI_of x10f).symm, w11f⟩
  · --
    refine s_i (pc1 := 13) (ls1 := [some (.ref 8), some (.int i), some (.int v), none]) (st1 := []) rfl rfl fun x13 e14 => ?_
    have e14t : x13.toInt = -1 := by rw [e14]; rfl
    refine aw_ret (v := some (.int x13)) rfl rfl ?_
    exfalso; omega
theorem q_put9 {d : Nat} {w : am_W} (i v : Int32) (hi : 0 ≤ i.toInt ∧ i.toInt < 2) (hv : 1 ≤ v.toInt ∧ v.toInt ≤ 9) (I : ab_inv ab_TT ab_sets w) : aw none (d + 1) 99 (fun r w1 => ∃ b : Int32, r = some (.int b) ∧ ab_J ab_TT ab_sets ab_WR2 w w1 ∧ b.toInt = rI w 9 i.toInt.toNat ∧ only [9] w w1 ∧ rI w1 9 i.toInt.toNat = v.toInt ∧ ∀ k, k ≠ i.toInt.toNat → rI w1 9 k = rI w 9 k) (0, am_entry 99 [.ref 9, .int i, .int v], []) w := by
  have J : ab_J ab_TT ab_sets ab_WR2 w w := ⟨I, ab_fr.rf⟩
  show aw none (d + 1) 99 _ (0, [some (.ref 9), some (.int i), some (.int v), none], []) w
  refine aw_step (f1 := (1, [some (.ref 9), some (.int i), some (.int v), none], [(.int i)])) (w1 := w) rfl rfl ?_
  refine s_i (pc1 := 2) (ls1 := [some (.ref 9), some (.int i), some (.int v), none]) (st1 := [(.int i)]) rfl rfl fun x1 e2 => ?_
  have e2t : x1.toInt = 0 := by rw [e2]; rfl
  refine aw_step (f1 := (3, [some (.ref 9), some (.int i), some (.int v), none], [(.ref 9), (.int x1), (.int i)])) (w1 := w) rfl rfl ?_
  refine s_al J 4 rfl rfl rfl rfl (by decide) fun x3 x3t => ?_
  refine s_i (pc1 := 5) (ls1 := [some (.ref 9), some (.int i), some (.int v), none]) (st1 := [(.int x3), (.int x1), (.int i)]) rfl rfl fun x4 e5 => ?_
  have e5t : x4.toInt = 1 := by rw [e5]; rfl
  refine s_i (pc1 := 6) (ls1 := [some (.ref 9), some (.int i), some (.int v), none]) (st1 := [(.int x1), (.int i)]) rfl rfl fun x6 e7 => ?_
  have e7 : x6 = x3 - x4 := e7
  have e7t : x6.toInt = x3.toInt - x4.toInt := by rw [e7]; exact n_sub (by omega) (by omega)
  refine s_cs (z := 102) (as := [(.int i), (.int x1), (.int x6)]) (st1 := []) 9 rfl rfl rfl rfl rfl rfl (Nat.le_of_ble_eq_true rfl) (Nat.le_of_ble_eq_true rfl) (Nat.le_of_ble_eq_true rfl) (q_within i x1 x6) ?_
  rintro _ _ ⟨rfl, x8, rfl, x8t⟩
  refine ⟨rfl, ?_⟩
  show aw none _ 99 _ (9, [some (.ref 9), some (.int i), some (.int v), none], [(.int x8)]) w
  refine s_if 14 12 rfl rfl rfl (fun (h9 : ¬ x8.toInt = 0) => ?_) (fun (h9 : ¬ (¬ x8.toInt = 0)) => ?_)
  · --
    refine aw_step (f1 := (15, [some (.ref 9), some (.int i), some (.int v), none], [(.ref 9)])) (w1 := w) rfl rfl ?_
    refine aw_step (f1 := (16, [some (.ref 9), some (.int i), some (.int v), none], [(.int i), (.ref 9)])) (w1 := w) rfl rfl ?_
    refine s_ia J 17 rfl rfl rfl rfl (by omega) (by omega) fun x10 x10a x10b x10f => ?_
    have x10v : x10.toInt = rI w 9 i.toInt.toNat := by rw [← rI_of x10f]
    refine aw_step (f1 := (18, [some (.ref 9), some (.int i), some (.int v), some (.int x10)], [])) (w1 := w) rfl rfl ?_
    refine aw_step (f1 := (19, [some (.ref 9), some (.int i), some (.int v), some (.int x10)], [(.ref 9)])) (w1 := w) rfl rfl ?_
    refine aw_step (f1 := (20, [some (.ref 9), some (.int i), some (.int v), some (.int x10)], [(.int i), (.ref 9)])) (w1 := w) rfl rfl ?_
    refine aw_step (f1 := (21, [some (.ref 9), some (.int i), some (.int v), some (.int x10)], [(.int v), (.int i), (.ref 9)])) (w1 := w) rfl rfl ?_
    refine s_is J 22 rfl rfl rfl rfl (by omega) (by omega) (by omega) (by omega) fun w11 J12 w11e => ?_
    have w11f := rI_st J.1 (p := 9) (j := i.toInt.toNat) rfl (by omega) w11e
    refine aw_step (f1 := (23, [some (.ref 9), some (.int i), some (.int v), some (.int x10)], [(.int x10)])) (w1 := w11) rfl rfl ?_
    refine aw_ret (v := some (.int x10)) rfl rfl ?_
    exact ⟨x10, rfl, J12, (rI_of x10f).symm, w11f⟩
  · --
    refine s_i (pc1 := 13) (ls1 := [some (.ref 9), some (.int i), some (.int v), none]) (st1 := []) rfl rfl fun x13 e14 => ?_
    have e14t : x13.toInt = -1 := by rw [e14]; rfl
    refine aw_ret (v := some (.int x13)) rfl rfl ?_
    exfalso; omega
