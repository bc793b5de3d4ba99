/-! ===== posts of the class ===== -/
theorem mul_17 {a b : Int} (a0 : 0 ≤ a) (a1 : a ≤ 17) (b0 : 0 ≤ b) (b1 : b ≤ 17) : 0 ≤ a * b ∧ a * b ≤ 289 := by
  refine ⟨Int.mul_nonneg a0 b0, ?_⟩
  have h : a * b ≤ 17 * 17 := Int.mul_le_mul a1 b1 b0 (by decide)
  omega
theorem t_s16 : ∀ c, c < 16 → n32 ((1 : Int32) <<< (Int32.ofNat c &&& 31)) = 2 ^ c := by decide +kernel
theorem n32_shl {c o : Int32} (h0 : 0 ≤ c.toInt) (h1 : c.toInt < 16) (ho : o.toInt = 1) : n32 (o <<< (c &&& 31)) = 2 ^ c.toInt.toNat := by
  have h := t_s16 c.toInt.toNat (by omega)
  rw [← i32_nat h0] at h
  rw [n_1 ho]
  exact h
theorem or_ad {k q : Nat} : 2 ^ (k + 1) * q ||| 2 ^ k = 2 ^ (k + 1) * q + 2 ^ k := by
  have h : 2 ^ k < 2 ^ (k + 1) := Nat.pow_lt_pow_right (by decide) (by omega)
  exact (Nat.two_pow_add_eq_or_of_lt h q).symm
/-- hopeless, or not -/
noncomputable def hoP (W : Int) (u : Nat) (left : Int) (m : Nat) (z : Int) : Prop := (z = 1 ∧ (left * W < cnt m 64 ∨ ∃ j, bt m j = 1 ∧ bt u j ≠ 1)) ∨ (z = 0 ∧ (cnt m 64 : Int) ≤ left * W)
theorem hoP.b {W left z : Int} {u m : Nat} (h : hoP W u left m z) : z = 1 ∨ z = 0 := by
  rcases h with h | h
  · exact Or.inl h.1
  · exact Or.inr h.1
noncomputable def sqP (x c : Int) : Prop := ∃ q : Nat, x.toNat = 2 ^ (c + 1).toNat * q
/-- what the class's Posts hold -/
noncomputable def pkP (w : am_W) (V : Nat → Int) (L : Int) : Prop := (1 ≤ szV V ∧ szV V ≤ 16) ∧ (0 ≤ fI w 39 2 ∧ fI w 39 2 < 65536) ∧ (∀ j, bt (fI w 39 2).toNat j = 1 ↔ ldN V j) ∧ (∀ c : Nat, (c : Int) < szV V → 0 ≤ rI w 40 c ∧ rI w 40 c < 65536) ∧ (∀ c j : Nat, (c : Int) < szV V → (bt (rI w 40 c).toNat j = 1 ↔ ldN V c ∧ svP V L c j)) ∧ (∀ c : Nat, (c : Int) < szV V → 0 ≤ rI w 41 c ∧ rI w 41 c < 65536) ∧ (∀ c j : Nat, (c : Int) < szV V → (bt (rI w 41 c).toNat j = 1 ↔ ∃ q : Nat, q ≤ c ∧ ldN V q ∧ svP V L q j)) ∧ (0 ≤ fI w 39 3 ∧ fI w 39 3 ≤ 17) ∧ (∀ c : Nat, (c : Int) < szV V → (cnt (rI w 40 c).toNat 64 : Int) ≤ fI w 39 3)
theorem pkP.z16 {w : am_W} {V : Nat → Int} {L : Int} (h : pkP w V L) : 1 ≤ szV V ∧ szV V ≤ 16 := h.1
theorem pkP.d0 {w : am_W} {V : Nat → Int} {L : Int} (h : pkP w V L) : 0 ≤ fI w 39 2 ∧ fI w 39 2 < 65536 := h.2.1
theorem pkP.d1 {w : am_W} {V : Nat → Int} {L : Int} (h : pkP w V L) : ∀ j, bt (fI w 39 2).toNat j = 1 ↔ ldN V j := h.2.2.1
theorem pkP.s0 {w : am_W} {V : Nat → Int} {L : Int} (h : pkP w V L) : ∀ c : Nat, (c : Int) < szV V → 0 ≤ rI w 40 c ∧ rI w 40 c < 65536 := h.2.2.2.1
theorem pkP.s1 {w : am_W} {V : Nat → Int} {L : Int} (h : pkP w V L) : ∀ c j : Nat, (c : Int) < szV V → (bt (rI w 40 c).toNat j = 1 ↔ ldN V c ∧ svP V L c j) := h.2.2.2.2.1
theorem pkP.u0 {w : am_W} {V : Nat → Int} {L : Int} (h : pkP w V L) : ∀ c : Nat, (c : Int) < szV V → 0 ≤ rI w 41 c ∧ rI w 41 c < 65536 := h.2.2.2.2.2.1
theorem pkP.u1 {w : am_W} {V : Nat → Int} {L : Int} (h : pkP w V L) : ∀ c j : Nat, (c : Int) < szV V → (bt (rI w 41 c).toNat j = 1 ↔ ∃ q : Nat, q ≤ c ∧ ldN V q ∧ svP V L q j) := h.2.2.2.2.2.2.1
theorem pkP.w0 {w : am_W} {V : Nat → Int} {L : Int} (h : pkP w V L) : 0 ≤ fI w 39 3 ∧ fI w 39 3 ≤ 17 := h.2.2.2.2.2.2.2.1
theorem pkP.w1 {w : am_W} {V : Nat → Int} {L : Int} (h : pkP w V L) : ∀ c : Nat, (c : Int) < szV V → (cnt (rI w 40 c).toNat 64 : Int) ≤ fI w 39 3 := h.2.2.2.2.2.2.2.2
theorem e_hopeless {d : Nat} {w : am_W} (m c left : Int32) (hm : 0 ≤ m.toInt ∧ m.toInt < 65536) (hc : 0 ≤ c.toInt ∧ c.toInt < 16) (hl : 0 ≤ left.toInt ∧ left.toInt ≤ 17) (hw : 0 ≤ fI w 39 3 ∧ fI w 39 3 ≤ 17) (hu : 0 ≤ rI w 41 c.toInt.toNat ∧ rI w 41 c.toInt.toNat < 65536) (I : ab_inv ab_TT ab_sets w) : aw none (d + 1) 20 (fun r w1 => w = w1 ∧ ∃ z : Int32, r = some (.int z) ∧ hoP (fI w 39 3) (rI w 41 c.toInt.toNat).toNat left.toInt m.toInt.toNat z.toInt) (0, am_entry 20 [.ref 39, .int m, .int c, .int left], []) w := by
  have J : ab_J ab_TT ab_sets ab_WR w w := ⟨I, ab_fr.rf⟩
  show aw none (d + 1) 20 _ (0, [some (.ref 39), some (.int m), some (.int c), some (.int left)], []) w
  refine aw_step (f1 := (1, [some (.ref 39), some (.int m), some (.int c), some (.int left)], [(.int m)])) (w1 := w) rfl rfl ?_
  refine s_cs (z := 187) (as := [(.int m)]) (st1 := []) 4 rfl rfl rfl rfl rfl rfl (Nat.le_of_ble_eq_true rfl) (Nat.le_of_ble_eq_true rfl) (Nat.le_of_ble_eq_true rfl) (q_bc16 m (by omega) (by omega)) ?_
  rintro _ _ ⟨rfl, x1, rfl, x1t⟩
  refine ⟨rfl, ?_⟩
  show aw none _ 20 _ (4, [some (.ref 39), some (.int m), some (.int c), some (.int left)], [(.int x1)]) w
  have x1c := cnt_le m.toInt.toNat 64
  refine aw_step (f1 := (5, [some (.ref 39), some (.int m), some (.int c), some (.int left)], [(.int left), (.int x1)])) (w1 := w) rfl rfl ?_
  refine aw_step (f1 := (6, [some (.ref 39), some (.int m), some (.int c), some (.int left)], [(.ref 39), (.int left), (.int x1)])) (w1 := w) rfl rfl ?_
  refine s_gi J 9 rfl rfl rfl rfl rfl rfl fun x2 x2a x2b x2f => ?_
  have x2v : x2.toInt = fI w 39 3 := by rw [← fI_of x2f]
  --
  refine s_i (pc1 := 10) (ls1 := [some (.ref 39), some (.int m), some (.int c), some (.int left)]) (st1 := [(.int x1)]) rfl rfl fun x3 e4 => ?_
  have e4 : x3 = left * x2 := e4
  have hpr := mul_17 (a := left.toInt) (b := x2.toInt) (by omega) (by omega) (by omega) (by omega)
  have hml : x3.toInt = left.toInt * fI w 39 3 := by rw [e4, n_mul (by omega) (by omega), ← x2v]
  refine s_ic 26 13 rfl rfl rfl (fun (h5 : x3.toInt < x1.toInt) => ?_) (fun (h5 : ¬ (x3.toInt < x1.toInt)) => ?_)
  · --
    refine s_i (pc1 := 27) (ls1 := [some (.ref 39), some (.int m), some (.int c), some (.int left)]) (st1 := []) rfl rfl fun x6 e7 => ?_
    have e7t : x6.toInt = 1 := by rw [e7]; rfl
    refine aw_step (f1 := (31, [some (.ref 39), some (.int m), some (.int c), some (.int left)], [(.int x6)])) (w1 := w) rfl rfl ?_
    refine aw_ret (v := some (.int x6)) rfl (am_retz (by omega)) ?_
    first
      | exact ⟨rfl, x6, rfl, Or.inr ⟨by omega, by omega⟩⟩
      | exact ⟨rfl, x6, rfl, Or.inl ⟨by omega, Or.inl (by omega)⟩⟩
      | (refine ⟨rfl, x6, rfl, Or.inl ⟨by omega, Or.inr ?_⟩⟩
         have nz : n32 zz ≠ 0 := fun e => by
           have := n32_toInt (x := zz) (by rw [e]; decide)
           rw [e] at this
           omega
         obtain ⟨j, hj⟩ := bt_some nz
         have sv : n32 zz = (rI w 41 c.toInt.toNat).toNat := by rw [← zzv]; have := n32_of (x := zz) (by omega); omega
         have mv : n32 m = m.toInt.toNat := by have := n32_of (x := m) (by omega); omega
         rw [zz, n32_and, bt_and] at hj
         have l1 := bt_le (n32 m) j
         have l2 := bt_le (n32 zz) j
         have j32 : j < 32 := by
           apply Classical.byContradiction
           intro q
           rw [bt_hi (n32_lt m) (by omega)] at hj
           omega
         rw [zz, bt_not32 zzt j32, sv, mv] at hj
         rw [mv] at l1
         exact ⟨j, by omega, by omega⟩)
  · --
    refine aw_step (f1 := (14, [some (.ref 39), some (.int m), some (.int c), some (.int left)], [(.int m)])) (w1 := w) rfl rfl ?_
    refine aw_step (f1 := (15, [some (.ref 39), some (.int m), some (.int c), some (.int left)], [(.ref 39), (.int m)])) (w1 := w) rfl rfl ?_
    refine s_gr 41 J 18 rfl rfl rfl rfl rfl rfl ?_
    refine aw_step (f1 := (19, [some (.ref 39), some (.int m), some (.int c), some (.int left)], [(.int c), (.ref 41), (.int m)])) (w1 := w) rfl rfl ?_
    refine s_ia J 20 rfl rfl rfl rfl (by omega) (by omega) fun x8 x8a x8b x8f => ?_
    have x8v : x8.toInt = rI w 41 c.toInt.toNat := by rw [← rI_of x8f]
    --
    refine s_i (pc1 := 21) (ls1 := [some (.ref 39), some (.int m), some (.int c), some (.int left)]) (st1 := [(.int x8), (.int m)]) rfl rfl fun x9 e10 => ?_
    have e10t : x9.toInt = -1 := by rw [e10]; rfl
    --
    refine s_i (pc1 := 22) (ls1 := [some (.ref 39), some (.int m), some (.int c), some (.int left)]) (st1 := [(.int m)]) rfl rfl fun x11 e12 => ?_
    have e12 : x11 = x8 ^^^ x9 := e12
    --
    refine s_i (pc1 := 23) (ls1 := [some (.ref 39), some (.int m), some (.int c), some (.int left)]) (st1 := []) rfl rfl fun x13 e14 => ?_
    have e14 : x13 = m &&& x11 := e14
    --
    refine s_if 30 26 rfl rfl rfl (fun (h15 : x13.toInt = 0) => ?_) (fun (h15 : ¬ (x13.toInt = 0)) => ?_)
    · --
      refine s_i (pc1 := 31) (ls1 := [some (.ref 39), some (.int m), some (.int c), some (.int left)]) (st1 := []) rfl rfl fun x16 e17 => ?_
      have e17t : x16.toInt = 0 := by rw [e17]; rfl
      refine aw_ret (v := some (.int x16)) rfl (am_retz (by omega)) ?_
      first
        | exact ⟨rfl, x16, rfl, Or.inr ⟨by omega, by omega⟩⟩
        | exact ⟨rfl, x16, rfl, Or.inl ⟨by omega, Or.inl (by omega)⟩⟩
        | (refine ⟨rfl, x16, rfl, Or.inl ⟨by omega, Or.inr ?_⟩⟩
           have nz : n32 x13 ≠ 0 := fun e => by
             have := n32_toInt (x := x13) (by rw [e]; decide)
             rw [e] at this
             omega
           obtain ⟨j, hj⟩ := bt_some nz
           have sv : n32 x8 = (rI w 41 c.toInt.toNat).toNat := by rw [← x8v]; have := n32_of (x := x8) (by omega); omega
           have mv : n32 m = m.toInt.toNat := by have := n32_of (x := m) (by omega); omega
           rw [e14, n32_and, bt_and] at hj
           have l1 := bt_le (n32 m) j
           have l2 := bt_le (n32 x11) j
           have j32 : j < 32 := by
             apply Classical.byContradiction
             intro q
             rw [bt_hi (n32_lt m) (by omega)] at hj
             omega
           rw [e12, bt_not32 e10t j32, sv, mv] at hj
           rw [mv] at l1
           exact ⟨j, by omega, by omega⟩)
    · --
      refine s_i (pc1 := 27) (ls1 := [some (.ref 39), some (.int m), some (.int c), some (.int left)]) (st1 := []) rfl rfl fun x18 e19 => ?_
      have e19t : x18.toInt = 1 := by rw [e19]; rfl
      refine aw_step (f1 := (31, [some (.ref 39), some (.int m), some (.int c), some (.int left)], [(.int x18)])) (w1 := w) rfl rfl ?_
      refine aw_ret (v := some (.int x18)) rfl (am_retz (by omega)) ?_
      first
        | exact ⟨rfl, x18, rfl, Or.inr ⟨by omega, by omega⟩⟩
        | exact ⟨rfl, x18, rfl, Or.inl ⟨by omega, Or.inl (by omega)⟩⟩
        | (refine ⟨rfl, x18, rfl, Or.inl ⟨by omega, Or.inr ?_⟩⟩
           have nz : n32 x13 ≠ 0 := fun e => by
             have := n32_toInt (x := x13) (by rw [e]; decide)
             rw [e] at this
             omega
           obtain ⟨j, hj⟩ := bt_some nz
           have sv : n32 x8 = (rI w 41 c.toInt.toNat).toNat := by rw [← x8v]; have := n32_of (x := x8) (by omega); omega
           have mv : n32 m = m.toInt.toNat := by have := n32_of (x := m) (by omega); omega
           rw [e14, n32_and, bt_and] at hj
           have l1 := bt_le (n32 m) j
           have l2 := bt_le (n32 x11) j
           have j32 : j < 32 := by
             apply Classical.byContradiction
             intro q
             rw [bt_hi (n32_lt m) (by omega)] at hj
             omega
           rw [e12, bt_not32 e10t j32, sv, mv] at hj
           rw [mv] at l1
           exact ⟨j, by omega, by omega⟩)
theorem e_seek {d : Nat} {w : am_W} {V : Nat → Int} {L : Int} (pk : pkP w V L) (I : ab_inv ab_TT ab_sets w) : ∀ (lv : Nat) (c left sv set : Int32), (-1 ≤ c.toInt ∧ c.toInt < szV V) → (0 ≤ left.toInt ∧ left.toInt ≤ 17) → (0 ≤ sv.toInt ∧ sv.toInt < 65536) → 0 ≤ set.toInt → sqP set.toInt c.toInt → set.toInt.toNat + 2 ^ (c.toInt + 1).toNat ≤ 65536 → (c.toInt + 1).toNat < lv → aw none (d + lv + 1) 19 (fun r w1 => w = w1 ∧ ∃ z : Int32, r = some (.int z) ∧ (z.toInt = -6 ∨ (0 ≤ z.toInt ∧ z.toInt < 65536)) ∧ skP V L c.toInt left.toInt sv.toInt.toNat set.toInt.toNat z.toInt) (0, am_entry 19 [.ref 39, .int c, .int left, .int sv, .int set], []) w
  | 0 => fun c left sv set _ _ _ _ _ _ p => by omega
  | lv + 1 => fun c left sv set hc hl hsv hse hsq hsl p => by
    have rcs := e_seek (d := d) pk I lv
    have J : ab_J ab_TT ab_sets ab_WR w w := ⟨I, ab_fr.rf⟩
    show aw none (d + lv + 2) 19 _ (0, [some (.ref 39), some (.int c), some (.int left), some (.int sv), some (.int set), none, none], []) w
    refine aw_step (f1 := (1, [some (.ref 39), some (.int c), some (.int left), some (.int sv), some (.int set), none, none], [(.ref 39)])) (w1 := w) rfl rfl ?_
    refine s_gi J 4 rfl rfl rfl rfl rfl rfl fun x1 x1a x1b x1f => ?_
    have x1v : x1.toInt = fI w 39 2 := by rw [← fI_of x1f]
    --
    refine aw_step (f1 := (5, [some (.ref 39), some (.int c), some (.int left), some (.int sv), some (.int set), none, none], [(.int sv), (.int x1)])) (w1 := w) rfl rfl ?_
    --
    refine s_i (pc1 := 6) (ls1 := [some (.ref 39), some (.int c), some (.int left), some (.int sv), some (.int set), none, none]) (st1 := [(.int sv), (.int x1)]) rfl rfl fun x2 e3 => ?_
    have e3t : x2.toInt = -1 := by rw [e3]; rfl
    --
    refine s_i (pc1 := 7) (ls1 := [some (.ref 39), some (.int c), some (.int left), some (.int sv), some (.int set), none, none]) (st1 := [(.int x1)]) rfl rfl fun x4 e5 => ?_
    have e5 : x4 = sv ^^^ x2 := e5
    --
    refine s_i (pc1 := 8) (ls1 := [some (.ref 39), some (.int c), some (.int left), some (.int sv), some (.int set), none, none]) (st1 := []) rfl rfl fun x6 e7 => ?_
    have e7 : x6 = x1 &&& x4 := e7
    have dd := pk.d0
    have nd : n32 x1 = (fI w 39 2).toNat := by rw [← x1v]; have := n32_of (x := x1) (by omega); omega
    have nv : n32 sv = sv.toInt.toNat := by have := n32_of (x := sv) (by omega); omega
    have hM : ∀ j, bt (n32 x6) j = 1 ↔ ldN V j ∧ bt sv.toInt.toNat j ≠ 1 := fun j => by
      have dj := pk.d1 j
      rw [← nd] at dj
      have l1 := bt_le (n32 x1) j
      have l2 := bt_le sv.toInt.toNat j
      rw [e7, n32_and, bt_and]
      by_cases j32 : j < 32
      · rw [e5, bt_not32 e3t j32, nv]
        constructor
        · intro u
          exact ⟨dj.mp (by omega), by omega⟩
        · rintro ⟨u1, u2⟩
          have := dj.mpr u1
          omega
      · rw [bt_hi (n32_lt x1) (by omega)] at dj ⊢
        constructor
        · intro u; omega
        · intro u
          have := dj.mpr u.1
          omega
    have z16 := pk.z16
    have m16 : n32 x6 < 2 ^ 16 := bt_lt fun j hj => by have := ((hM j).mp hj).1.1; omega
    have mi : x6.toInt = (n32 x6 : Int) := n32_toInt (by omega)
    have mt : n32 x6 = x6.toInt.toNat := by omega
    refine aw_step (f1 := (10, [some (.ref 39), some (.int c), some (.int left), some (.int sv), some (.int set), some (.int x6), none], [])) (w1 := w) rfl rfl ?_
    --
    refine aw_step (f1 := (12, [some (.ref 39), some (.int c), some (.int left), some (.int sv), some (.int set), some (.int x6), none], [(.int x6)])) (w1 := w) rfl rfl ?_
    refine s_if 18 15 rfl rfl rfl (fun (h8 : ¬ x6.toInt = 0) => ?_) (fun (h8 : ¬ (¬ x6.toInt = 0)) => ?_)
    · --
      obtain ⟨jm, hjm⟩ := bt_some (a := n32 x6) (by omega)
      obtain ⟨jl, jn⟩ := (hM jm).mp hjm
      refine aw_step (f1 := (19, [some (.ref 39), some (.int c), some (.int left), some (.int sv), some (.int set), some (.int x6), none], [(.int c)])) (w1 := w) rfl rfl ?_
      refine s_if 39 22 rfl rfl rfl (fun (h9 : c.toInt < 0) => ?_) (fun (h9 : ¬ (c.toInt < 0)) => ?_)
      · --
        refine s_i (pc1 := 41) (ls1 := [some (.ref 39), some (.int c), some (.int left), some (.int sv), some (.int set), some (.int x6), none]) (st1 := []) rfl rfl fun x10 e11 => ?_
        have e11t : x10.toInt = -6 := by rw [e11]; rfl
        refine aw_ret (v := some (.int x10)) rfl rfl ?_
        refine ⟨rfl, x10, rfl, Or.inl (by omega), ?_⟩
        rw [show x10.toInt = -6 by omega]
        first
          | exact sk_neg (j := jm) (by omega) jl jn
          | (exfalso; omega)
          | (rcases zzt with ⟨-, q | ⟨j, j1, j2⟩⟩ | q
             · have hs : ∀ q : Nat, cnt ((fun c : Nat => if (c : Int) < szV V then (rI w 40 c).toNat else 0) q) 64 ≤ (fI w 39 3).toNat := fun q => by
                 show cnt (if (q : Int) < szV V then (rI w 40 q).toNat else 0) 64 ≤ _
                 by_cases u : (q : Int) < szV V
                 · rw [if_pos u]; have := pk.w1 q u; omega
                 · rw [if_neg u, cnt_zz]; exact Nat.zero_le _
               refine sk_h1 (s := fun c : Nat => if (c : Int) < szV V then (rI w 40 c).toNat else 0) (W := (fI w 39 3).toNat) (M := n32 x6) (by omega) hs (fun a j ha hj => ?_) (fun j hj => (hM j).mp hj) ?_
               · show bt (if (a : Int) < szV V then (rI w 40 a).toNat else 0) j = 1
                 rw [if_pos ha.1]
                 exact (pk.s1 a j ha.1).mpr ⟨ha, hj⟩
               · rw [show (((fI w 39 3).toNat : Nat) : Int) = fI w 39 3 by have := pk.w0; omega, mt]
                 exact q
             · rw [← mt] at j1
               obtain ⟨jl2, jn2⟩ := (hM j).mp j1
               exact sk_h2 jl2 jn2 (fun a ha hl ns => j2 ((pk.u1 c.toInt.toNat j (by omega)).mpr ⟨a, by omega, hl, ns⟩))
             · exfalso; omega)
      · --
        refine aw_step (f1 := (23, [some (.ref 39), some (.int c), some (.int left), some (.int sv), some (.int set), some (.int x6), none], [(.int c)])) (w1 := w) rfl rfl ?_
        refine s_i (pc1 := 25) (ls1 := [some (.ref 39), some (.int c), some (.int left), some (.int sv), some (.int set), some (.int x6), none]) (st1 := [(.int c)]) rfl rfl fun x12 e13 => ?_
        have e13t : x12.toInt = 16 := by rw [e13]; rfl
        refine s_ic 39 28 rfl rfl rfl (fun (h14 : x12.toInt ≤ c.toInt) => ?_) (fun (h14 : ¬ (x12.toInt ≤ c.toInt)) => ?_)
        · --
          refine s_i (pc1 := 41) (ls1 := [some (.ref 39), some (.int c), some (.int left), some (.int sv), some (.int set), some (.int x6), none]) (st1 := []) rfl rfl fun x15 e16 => ?_
          have e16t : x15.toInt = -6 := by rw [e16]; rfl
          refine aw_ret (v := some (.int x15)) rfl rfl ?_
          refine ⟨rfl, x15, rfl, Or.inl (by omega), ?_⟩
          rw [show x15.toInt = -6 by omega]
          first
            | exact sk_neg (j := jm) (by omega) jl jn
            | (exfalso; omega)
            | (rcases zzt with ⟨-, q | ⟨j, j1, j2⟩⟩ | q
               · have hs : ∀ q : Nat, cnt ((fun c : Nat => if (c : Int) < szV V then (rI w 40 c).toNat else 0) q) 64 ≤ (fI w 39 3).toNat := fun q => by
                   show cnt (if (q : Int) < szV V then (rI w 40 q).toNat else 0) 64 ≤ _
                   by_cases u : (q : Int) < szV V
                   · rw [if_pos u]; have := pk.w1 q u; omega
                   · rw [if_neg u, cnt_zz]; exact Nat.zero_le _
                 refine sk_h1 (s := fun c : Nat => if (c : Int) < szV V then (rI w 40 c).toNat else 0) (W := (fI w 39 3).toNat) (M := n32 x6) (by omega) hs (fun a j ha hj => ?_) (fun j hj => (hM j).mp hj) ?_
                 · show bt (if (a : Int) < szV V then (rI w 40 a).toNat else 0) j = 1
                   rw [if_pos ha.1]
                   exact (pk.s1 a j ha.1).mpr ⟨ha, hj⟩
                 · rw [show (((fI w 39 3).toNat : Nat) : Int) = fI w 39 3 by have := pk.w0; omega, mt]
                   exact q
               · rw [← mt] at j1
                 obtain ⟨jl2, jn2⟩ := (hM j).mp j1
                 exact sk_h2 jl2 jn2 (fun a ha hl ns => j2 ((pk.u1 c.toInt.toNat j (by omega)).mpr ⟨a, by omega, hl, ns⟩))
               · exfalso; omega)
        · --
          refine aw_step (f1 := (29, [some (.ref 39), some (.int c), some (.int left), some (.int sv), some (.int set), some (.int x6), none], [(.ref 39)])) (w1 := w) rfl rfl ?_
          refine aw_step (f1 := (31, [some (.ref 39), some (.int c), some (.int left), some (.int sv), some (.int set), some (.int x6), none], [(.int x6), (.ref 39)])) (w1 := w) rfl rfl ?_
          refine aw_step (f1 := (32, [some (.ref 39), some (.int c), some (.int left), some (.int sv), some (.int set), some (.int x6), none], [(.int c), (.int x6), (.ref 39)])) (w1 := w) rfl rfl ?_
          refine aw_step (f1 := (33, [some (.ref 39), some (.int c), some (.int left), some (.int sv), some (.int set), some (.int x6), none], [(.int left), (.int c), (.int x6), (.ref 39)])) (w1 := w) rfl rfl ?_
          refine s_cv (z := 20) (p := 39) (as := [(.int x6), (.int c), (.int left)]) (st1 := []) J 36 rfl rfl rfl rfl rfl rfl rfl rfl (Nat.le_of_ble_eq_true rfl) (Nat.le_of_ble_eq_true rfl) (e_hopeless x6 c left ⟨by omega, by omega⟩ ⟨by omega, by omega⟩ ⟨by omega, by omega⟩ pk.w0 (pk.u0 _ (by omega)) J.1) ?_
          rintro _ _ ⟨rfl, x17, rfl, x17t⟩
          refine ⟨rfl, ?_⟩
          show aw none _ 19 _ (36, [some (.ref 39), some (.int c), some (.int left), some (.int sv), some (.int set), some (.int x6), none], [(.int x17)]) w
          have x17b := x17t.b
          refine s_if 42 39 rfl rfl rfl (fun (h18 : x17.toInt = 0) => ?_) (fun (h18 : ¬ (x17.toInt = 0)) => ?_)
          · --
            refine aw_step (f1 := (43, [some (.ref 39), some (.int c), some (.int left), some (.int sv), some (.int set), some (.int x6), none], [(.ref 39)])) (w1 := w) rfl rfl ?_
            refine aw_step (f1 := (44, [some (.ref 39), some (.int c), some (.int left), some (.int sv), some (.int set), some (.int x6), none], [(.int c), (.ref 39)])) (w1 := w) rfl rfl ?_
            refine s_i (pc1 := 45) (ls1 := [some (.ref 39), some (.int c), some (.int left), some (.int sv), some (.int set), some (.int x6), none]) (st1 := [(.int c), (.ref 39)]) rfl rfl fun x19 e20 => ?_
            have e20t : x19.toInt = 1 := by rw [e20]; rfl
            refine s_i (pc1 := 46) (ls1 := [some (.ref 39), some (.int c), some (.int left), some (.int sv), some (.int set), some (.int x6), none]) (st1 := [(.ref 39)]) rfl rfl fun x21 e22 => ?_
            have e22 : x21 = c - x19 := e22
            have e22t : x21.toInt = c.toInt - x19.toInt := by rw [e22]; exact n_sub (by omega) (by omega)
            refine aw_step (f1 := (47, [some (.ref 39), some (.int c), some (.int left), some (.int sv), some (.int set), some (.int x6), none], [(.int left), (.int x21), (.ref 39)])) (w1 := w) rfl rfl ?_
            refine aw_step (f1 := (48, [some (.ref 39), some (.int c), some (.int left), some (.int sv), some (.int set), some (.int x6), none], [(.int sv), (.int left), (.int x21), (.ref 39)])) (w1 := w) rfl rfl ?_
            refine aw_step (f1 := (50, [some (.ref 39), some (.int c), some (.int left), some (.int sv), some (.int set), some (.int x6), none], [(.int set), (.int sv), (.int left), (.int x21), (.ref 39)])) (w1 := w) rfl rfl ?_
            obtain ⟨q0, hq0⟩ := hsq
            have cn : (c.toInt + 1).toNat = c.toInt.toNat + 1 := by omega
            have c1 : (x21.toInt + 1).toNat = c.toInt.toNat := by omega
            rw [cn] at hq0 hsl
            have pw : 2 ^ (c.toInt.toNat + 1) = 2 ^ c.toInt.toNat * 2 := Nat.pow_succ ..
            have s1 : sqP set.toInt x21.toInt := by
              unfold sqP
              exact ⟨2 * q0, by rw [c1, hq0, pw, Nat.mul_assoc]⟩
            have s1l : set.toInt.toNat + 2 ^ (x21.toInt + 1).toNat ≤ 65536 := by rw [c1]; omega
            refine s_cs (z := 19) (as := [(.ref 39), (.int x21), (.int left), (.int sv), (.int set)]) (st1 := []) 53 rfl rfl rfl rfl rfl rfl (Nat.le_of_ble_eq_true rfl) (Nat.le_of_ble_eq_true rfl) (Nat.le_of_ble_eq_true rfl) (rcs x21 left sv set ⟨by omega, by omega⟩ ⟨by omega, by omega⟩ ⟨by omega, by omega⟩ (by omega) s1 s1l (by omega)) ?_
            rintro _ _ ⟨rfl, x23, rfl, x23b, x23t⟩
            refine ⟨rfl, ?_⟩
            show aw none _ 19 _ (53, [some (.ref 39), some (.int c), some (.int left), some (.int sv), some (.int set), some (.int x6), none], [(.int x23)]) w
            have kc : ((c.toInt.toNat : Nat) : Int) = c.toInt := by omega
            have za := x23t
            rw [show x21.toInt = ((c.toInt.toNat : Nat) : Int) - 1 by omega] at za
            refine aw_step (f1 := (55, [some (.ref 39), some (.int c), some (.int left), some (.int sv), some (.int set), some (.int x6), some (.int x23)], [])) (w1 := w) rfl rfl ?_
            refine aw_step (f1 := (57, [some (.ref 39), some (.int c), some (.int left), some (.int sv), some (.int set), some (.int x6), some (.int x23)], [(.int x23)])) (w1 := w) rfl rfl ?_
            refine s_i (pc1 := 59) (ls1 := [some (.ref 39), some (.int c), some (.int left), some (.int sv), some (.int set), some (.int x6), some (.int x23)]) (st1 := [(.int x23)]) rfl rfl fun x24 e25 => ?_
            have e25t : x24.toInt = -6 := by rw [e25]; rfl
            refine s_ic 71 62 rfl rfl rfl (fun (h26 : ¬ x23.toInt = x24.toInt) => ?_) (fun (h26 : ¬ (¬ x23.toInt = x24.toInt)) => ?_)
            · --
              refine aw_step (f1 := (73, [some (.ref 39), some (.int c), some (.int left), some (.int sv), some (.int set), some (.int x6), some (.int x23)], [(.int x23)])) (w1 := w) rfl rfl ?_
              refine aw_ret (v := some (.int x23)) rfl rfl ?_
              refine ⟨rfl, x23, rfl, x23b, ?_⟩
              rw [← kc]
              first
                | exact sk_wo za (by omega)
                | (rw [show x23.toInt = -6 by omega] at za ⊢; exact sk_nl za (by omega) (sz0 (by omega)))
            · --
              refine aw_step (f1 := (63, [some (.ref 39), some (.int c), some (.int left), some (.int sv), some (.int set), some (.int x6), some (.int x23)], [(.ref 39)])) (w1 := w) rfl rfl ?_
              refine s_gr 40 J 66 rfl rfl rfl rfl rfl rfl ?_
              refine aw_step (f1 := (67, [some (.ref 39), some (.int c), some (.int left), some (.int sv), some (.int set), some (.int x6), some (.int x23)], [(.int c), (.ref 40)])) (w1 := w) rfl rfl ?_
              refine s_ia J 68 rfl rfl rfl rfl (by omega) (by omega) fun x27 x27a x27b x27f => ?_
              have x27v : x27.toInt = rI w 40 c.toInt.toNat := by rw [← rI_of x27f]
              have scv : x27.toInt = rI w 40 c.toInt.toNat := x27v
              have sc0 := pk.s0 c.toInt.toNat (by omega)
              have scb := fun j => pk.s1 c.toInt.toNat j (by omega)
              have sz0 : x27.toInt = 0 → ¬ ldN V c.toInt.toNat := fun e z => by
                have := (scb c.toInt.toNat).mpr ⟨z, Or.inl rfl⟩
                rw [← scv, e, show (0 : Int).toNat = 0 from rfl, bt_z] at this
                omega
              have sz1 : x27.toInt ≠ 0 → ldN V c.toInt.toNat := fun e => by
                obtain ⟨j, hj⟩ := bt_some (a := (rI w 40 c.toInt.toNat).toNat) (by omega)
                exact ((scb j).mp hj).1
              refine s_if 74 71 rfl rfl rfl (fun (h28 : ¬ x27.toInt = 0) => ?_) (fun (h28 : ¬ (¬ x27.toInt = 0)) => ?_)
              · --
                have lz : 1 ≤ left.toInt := by
                  apply Classical.byContradiction
                  intro u
                  have l0 : left.toInt = 0 := by omega
                  rcases x17t with ⟨q, -⟩ | ⟨-, q⟩
                  · omega
                  · rw [l0, Int.zero_mul] at q
                    have := (cnt_z (n := x6.toInt.toNat) (by omega)).mp (by omega)
                    omega
                refine aw_step (f1 := (75, [some (.ref 39), some (.int c), some (.int left), some (.int sv), some (.int set), some (.int x6), some (.int x23)], [(.ref 39)])) (w1 := w) rfl rfl ?_
                refine aw_step (f1 := (76, [some (.ref 39), some (.int c), some (.int left), some (.int sv), some (.int set), some (.int x6), some (.int x23)], [(.int c), (.ref 39)])) (w1 := w) rfl rfl ?_
                refine s_i (pc1 := 77) (ls1 := [some (.ref 39), some (.int c), some (.int left), some (.int sv), some (.int set), some (.int x6), some (.int x23)]) (st1 := [(.int c), (.ref 39)]) rfl rfl fun x29 e30 => ?_
                have e30t : x29.toInt = 1 := by rw [e30]; rfl
                refine s_i (pc1 := 78) (ls1 := [some (.ref 39), some (.int c), some (.int left), some (.int sv), some (.int set), some (.int x6), some (.int x23)]) (st1 := [(.ref 39)]) rfl rfl fun x31 e32 => ?_
                have e32 : x31 = c - x29 := e32
                have e32t : x31.toInt = c.toInt - x29.toInt := by rw [e32]; exact n_sub (by omega) (by omega)
                refine aw_step (f1 := (79, [some (.ref 39), some (.int c), some (.int left), some (.int sv), some (.int set), some (.int x6), some (.int x23)], [(.int left), (.int x31), (.ref 39)])) (w1 := w) rfl rfl ?_
                refine s_i (pc1 := 80) (ls1 := [some (.ref 39), some (.int c), some (.int left), some (.int sv), some (.int set), some (.int x6), some (.int x23)]) (st1 := [(.int left), (.int x31), (.ref 39)]) rfl rfl fun x33 e34 => ?_
                have e34t : x33.toInt = 1 := by rw [e34]; rfl
                refine s_i (pc1 := 81) (ls1 := [some (.ref 39), some (.int c), some (.int left), some (.int sv), some (.int set), some (.int x6), some (.int x23)]) (st1 := [(.int x31), (.ref 39)]) rfl rfl fun x35 e36 => ?_
                have e36 : x35 = left - x33 := e36
                have e36t : x35.toInt = left.toInt - x33.toInt := by rw [e36]; exact n_sub (by omega) (by omega)
                --
                refine aw_step (f1 := (82, [some (.ref 39), some (.int c), some (.int left), some (.int sv), some (.int set), some (.int x6), some (.int x23)], [(.int sv), (.int x35), (.int x31), (.ref 39)])) (w1 := w) rfl rfl ?_
                refine aw_step (f1 := (83, [some (.ref 39), some (.int c), some (.int left), some (.int sv), some (.int set), some (.int x6), some (.int x23)], [(.ref 39), (.int sv), (.int x35), (.int x31), (.ref 39)])) (w1 := w) rfl rfl ?_
                refine s_gr 40 J 86 rfl rfl rfl rfl rfl rfl ?_
                refine aw_step (f1 := (87, [some (.ref 39), some (.int c), some (.int left), some (.int sv), some (.int set), some (.int x6), some (.int x23)], [(.int c), (.ref 40), (.int sv), (.int x35), (.int x31), (.ref 39)])) (w1 := w) rfl rfl ?_
                refine s_ia J 88 rfl rfl rfl rfl (by omega) (by omega) fun x37 x37a x37b x37f => ?_
                have x37v : x37.toInt = rI w 40 c.toInt.toNat := by rw [← rI_of x37f]
                --
                refine s_i (pc1 := 89) (ls1 := [some (.ref 39), some (.int c), some (.int left), some (.int sv), some (.int set), some (.int x6), some (.int x23)]) (st1 := [(.int x35), (.int x31), (.ref 39)]) rfl rfl fun x38 e39 => ?_
                have e39 : x38 = sv ||| x37 := e39
                have s2v : x37.toInt = rI w 40 c.toInt.toNat := x37v
                have nb : n32 x37 = (rI w 40 c.toInt.toNat).toNat := by have := n32_of (x := x37) (by omega); omega
                have nso : n32 x38 = sv.toInt.toNat ||| (rI w 40 c.toInt.toNat).toNat := by rw [e39, n32_or, nv, nb]
                have so16 : n32 x38 < 2 ^ 16 := by
                  rw [nso]
                  exact Nat.or_lt_two_pow (by omega) (by omega)
                have soi : x38.toInt = (n32 x38 : Int) := n32_toInt (by omega)
                refine aw_step (f1 := (91, [some (.ref 39), some (.int c), some (.int left), some (.int sv), some (.int set), some (.int x6), some (.int x23)], [(.int set), (.int x38), (.int x35), (.int x31), (.ref 39)])) (w1 := w) rfl rfl ?_
                refine s_i (pc1 := 92) (ls1 := [some (.ref 39), some (.int c), some (.int left), some (.int sv), some (.int set), some (.int x6), some (.int x23)]) (st1 := [(.int set), (.int x38), (.int x35), (.int x31), (.ref 39)]) rfl rfl fun x40 e41 => ?_
                have e41t : x40.toInt = 1 := by rw [e41]; rfl
                --
                refine aw_step (f1 := (93, [some (.ref 39), some (.int c), some (.int left), some (.int sv), some (.int set), some (.int x6), some (.int x23)], [(.int c), (.int x40), (.int set), (.int x38), (.int x35), (.int x31), (.ref 39)])) (w1 := w) rfl rfl ?_
                refine s_i (pc1 := 94) (ls1 := [some (.ref 39), some (.int c), some (.int left), some (.int sv), some (.int set), some (.int x6), some (.int x23)]) (st1 := [(.int set), (.int x38), (.int x35), (.int x31), (.ref 39)]) rfl rfl fun x42 e43 => ?_
                have e43 : x42 = x40 <<< (c &&& 31) := e43
                --
                refine s_i (pc1 := 95) (ls1 := [some (.ref 39), some (.int c), some (.int left), some (.int sv), some (.int set), some (.int x6), some (.int x23)]) (st1 := [(.int x38), (.int x35), (.int x31), (.ref 39)]) rfl rfl fun x44 e45 => ?_
                have e45 : x44 = set ||| x42 := e45
                have ns : n32 set = set.toInt.toNat := by have := n32_of (x := set) (by omega); omega
                have nst : n32 x44 = set.toInt.toNat + 2 ^ c.toInt.toNat := by
                  rw [e45, n32_or, ns, e43, n32_shl (by omega) (by omega) (by omega), hq0]
                  exact or_ad
                have stl : 2 ^ c.toInt.toNat ≤ 2 ^ 15 := Nat.pow_le_pow_right (by decide) (by omega)
                have st5 : (2 : Nat) ^ 15 = 32768 := rfl
                have sti : x44.toInt = (n32 x44 : Int) := n32_toInt (by omega)
                have c2e : (x31.toInt + 1).toNat = c.toInt.toNat := by omega
                have s2 : sqP x44.toInt x31.toInt := by
                  unfold sqP
                  exact ⟨2 * q0 + 1, by rw [c2e, show x44.toInt.toNat = set.toInt.toNat + 2 ^ c.toInt.toNat by omega, hq0, pw, Nat.mul_add, Nat.mul_one, Nat.mul_assoc]⟩
                have s2l : x44.toInt.toNat + 2 ^ (x31.toInt + 1).toNat ≤ 65536 := by rw [c2e]; omega
                refine s_cs (z := 19) (as := [(.ref 39), (.int x31), (.int x35), (.int x38), (.int x44)]) (st1 := []) 98 rfl rfl rfl rfl rfl rfl (Nat.le_of_ble_eq_true rfl) (Nat.le_of_ble_eq_true rfl) (Nat.le_of_ble_eq_true rfl) (rcs x31 x35 x38 x44 ⟨by omega, by omega⟩ ⟨by omega, by omega⟩ ⟨by omega, by omega⟩ (by omega) s2 s2l (by omega)) ?_
                rintro _ _ ⟨rfl, x46, rfl, x46b, x46t⟩
                refine ⟨rfl, ?_⟩
                show aw none _ 19 _ (98, [some (.ref 39), some (.int c), some (.int left), some (.int sv), some (.int set), some (.int x6), some (.int x23)], [(.int x46)]) w
                refine aw_ret (v := some (.int x46)) rfl rfl ?_
                refine ⟨rfl, x46, rfl, x46b, ?_⟩
                have zb := x46t
                rw [show x31.toInt = ((c.toInt.toNat : Nat) : Int) - 1 by omega, show x44.toInt.toNat = set.toInt.toNat + 2 ^ c.toInt.toNat by omega, show x35.toInt = left.toInt - 1 by omega, show x38.toInt.toNat = sv.toInt.toNat ||| (rI w 40 c.toInt.toNat).toNat by omega] at zb
                rw [show x23.toInt = -6 by omega] at za
                rw [← kc]
                exact sk_wi za (sz1 (by omega)) (by omega) (fun j => (scb j).trans ⟨fun q => q.2, fun q => ⟨sz1 (by omega), q⟩⟩) zb
              · --
                refine aw_step (f1 := (73, [some (.ref 39), some (.int c), some (.int left), some (.int sv), some (.int set), some (.int x6), some (.int x23)], [(.int x23)])) (w1 := w) rfl rfl ?_
                refine aw_ret (v := some (.int x23)) rfl rfl ?_
                refine ⟨rfl, x23, rfl, x23b, ?_⟩
                rw [← kc]
                first
                  | exact sk_wo za (by omega)
                  | (rw [show x23.toInt = -6 by omega] at za ⊢; exact sk_nl za (by omega) (sz0 (by omega)))
          · --
            refine s_i (pc1 := 41) (ls1 := [some (.ref 39), some (.int c), some (.int left), some (.int sv), some (.int set), some (.int x6), none]) (st1 := []) rfl rfl fun x47 e48 => ?_
            have e48t : x47.toInt = -6 := by rw [e48]; rfl
            refine aw_ret (v := some (.int x47)) rfl rfl ?_
            refine ⟨rfl, x47, rfl, Or.inl (by omega), ?_⟩
            rw [show x47.toInt = -6 by omega]
            first
              | exact sk_neg (j := jm) (by omega) jl jn
              | (exfalso; omega)
              | (rcases x17t with ⟨-, q | ⟨j, j1, j2⟩⟩ | q
                 · have hs : ∀ q : Nat, cnt ((fun c : Nat => if (c : Int) < szV V then (rI w 40 c).toNat else 0) q) 64 ≤ (fI w 39 3).toNat := fun q => by
                     show cnt (if (q : Int) < szV V then (rI w 40 q).toNat else 0) 64 ≤ _
                     by_cases u : (q : Int) < szV V
                     · rw [if_pos u]; have := pk.w1 q u; omega
                     · rw [if_neg u, cnt_zz]; exact Nat.zero_le _
                   refine sk_h1 (s := fun c : Nat => if (c : Int) < szV V then (rI w 40 c).toNat else 0) (W := (fI w 39 3).toNat) (M := n32 x6) (by omega) hs (fun a j ha hj => ?_) (fun j hj => (hM j).mp hj) ?_
                   · show bt (if (a : Int) < szV V then (rI w 40 a).toNat else 0) j = 1
                     rw [if_pos ha.1]
                     exact (pk.s1 a j ha.1).mpr ⟨ha, hj⟩
                   · rw [show (((fI w 39 3).toNat : Nat) : Int) = fI w 39 3 by have := pk.w0; omega, mt]
                     exact q
                 · rw [← mt] at j1
                   obtain ⟨jl2, jn2⟩ := (hM j).mp j1
                   exact sk_h2 jl2 jn2 (fun a ha hl ns => j2 ((pk.u1 c.toInt.toNat j (by omega)).mpr ⟨a, by omega, hl, ns⟩))
                 · exfalso; omega)
    · --
      refine aw_step (f1 := (17, [some (.ref 39), some (.int c), some (.int left), some (.int sv), some (.int set), some (.int x6), none], [(.int set)])) (w1 := w) rfl rfl ?_
      refine aw_ret (v := some (.int set)) rfl rfl ?_
      refine ⟨rfl, set, rfl, Or.inr ⟨by omega, by have : 1 ≤ 2 ^ (c.toInt + 1).toNat := Nat.one_le_two_pow; omega⟩, ?_⟩
      rw [show set.toInt = ((set.toInt.toNat : Nat) : Int) by omega]
      exact sk_0 (by omega) (fun j hj => by
        apply Classical.byContradiction
        intro u
        have := (hM j).mpr ⟨hj, u⟩
        rw [mt, show x6.toInt.toNat = 0 by omega, bt_z] at this
        omega)
/-- the rows so far -/
noncomputable def fwI (w : am_W) (V : Nat → Int) (L i : Int) (tg : Nat) : Prop := (∀ c : Nat, (c : Int) < i → (0 ≤ rI w 40 c ∧ rI w 40 c < 65536) ∧ (∀ j, bt (rI w 40 c).toNat j = 1 ↔ ldN V c ∧ svP V L c j) ∧ (0 ≤ rI w 41 c ∧ rI w 41 c < 65536) ∧ (∀ j, bt (rI w 41 c).toNat j = 1 ↔ ∃ q : Nat, q ≤ c ∧ ldN V q ∧ svP V L q j) ∧ (cnt (rI w 40 c).toNat 64 : Int) ≤ fI w 39 3) ∧ (∀ j, bt tg j = 1 ↔ ∃ q : Nat, (q : Int) < i ∧ ldN V q ∧ svP V L q j) ∧ (0 ≤ fI w 39 3 ∧ fI w 39 3 ≤ 16)
theorem svP_16 {V : Nat → Int} {L : Int} {c j : Nat} (hz : szV V ≤ 16) (hc : ldN V c) (h : svP V L c j) : j < 16 := by
  rcases h with h | h
  · have := hc.1; omega
  · have := h.1.1; omega
theorem e_fwM {d : Nat} {w00 w : am_W} {V : Nat → Int} (L n tg : Int32) (pk : pkP w V L.toInt) (J : ab_J ab_TT ab_sets ab_WR w00 w) (hn : n.toInt = szV V) : ∀ (m : Nat) (k : Int32) (o6 : Option Value), (szV V + 1 - k.toInt).toNat < m → 0 ≤ k.toInt → k.toInt ≤ szV V + 1 → (∀ a : Nat, (a : Int) < k.toInt → ∀ U, slP V L.toInt U → ¬ cnt U 64 ≤ a) → aw none (d + 19) 18 (fun r w1 => ab_J ab_TT ab_sets ab_WR w00 w1 ∧ ∃ z : Int32, r = some (.int z) ∧ ∃ T, bsP V L.toInt T ∧ z.toInt = T ∧ T < 65536) (121, [some (.ref 39), some (.ref 3), some (.int L), some (.int n), some (.int tg), some (.int k), o6], []) w := by
  have z16 := pk.z16
  intro m
  induction m with
  | zero => intro k o6 p; omega
  | succ m ih =>
    intro k o6 p1 p2 p3 N
    refine aw_step (f1 := (123, [some (.ref 39), some (.ref 3), some (.int L), some (.int n), some (.int tg), some (.int k), o6], [(.int k)])) (w1 := w) rfl rfl ?_
    refine aw_step (f1 := (124, [some (.ref 39), some (.ref 3), some (.int L), some (.int n), some (.int tg), some (.int k), o6], [(.int n), (.int k)])) (w1 := w) rfl rfl ?_
    refine s_ic 156 127 rfl rfl rfl (fun (h1 : n.toInt < k.toInt) => ?_) (fun (h1 : ¬ (n.toInt < k.toInt)) => ?_)
    · --
      refine s_i (pc1 := 157) (ls1 := [some (.ref 39), some (.ref 3), some (.int L), some (.int n), some (.int tg), some (.int k), o6]) (st1 := []) rfl rfl fun x2 e3 => ?_
      have e3t : x2.toInt = 0 := by rw [e3]; rfl
      refine aw_ret (v := some (.int x2)) rfl rfl ?_
      exfalso
      have sD : slP V L.toInt (fI w 39 2).toNat := ⟨fun c hc => (pk.d1 c).mp hc, fun j hj => ⟨j, (pk.d1 j).mpr hj, Or.inl rfl⟩⟩
      have e := cnt_top (n := (fI w 39 2).toNat) (m := (szV V).toNat) (bt_lt fun j hj => by have := ((pk.d1 j).mp hj).1; omega) (64 - (szV V).toNat)
      rw [show (szV V).toNat + (64 - (szV V).toNat) = 64 by have := pk.z16; omega] at e
      have cl := cnt_le (fI w 39 2).toNat (szV V).toNat
      exact N (cnt (fI w 39 2).toNat 64) (by omega) _ sD (Nat.le_refl _)
    · --
      refine aw_step (f1 := (128, [some (.ref 39), some (.ref 3), some (.int L), some (.int n), some (.int tg), some (.int k), o6], [(.ref 39)])) (w1 := w) rfl rfl ?_
      refine aw_step (f1 := (129, [some (.ref 39), some (.ref 3), some (.int L), some (.int n), some (.int tg), some (.int k), o6], [(.int n), (.ref 39)])) (w1 := w) rfl rfl ?_
      refine s_i (pc1 := 130) (ls1 := [some (.ref 39), some (.ref 3), some (.int L), some (.int n), some (.int tg), some (.int k), o6]) (st1 := [(.int n), (.ref 39)]) rfl rfl fun x4 e5 => ?_
      have e5t : x4.toInt = 1 := by rw [e5]; rfl
      refine s_i (pc1 := 131) (ls1 := [some (.ref 39), some (.ref 3), some (.int L), some (.int n), some (.int tg), some (.int k), o6]) (st1 := [(.ref 39)]) rfl rfl fun x6 e7 => ?_
      have e7 : x6 = n - x4 := e7
      have e7t : x6.toInt = n.toInt - x4.toInt := by rw [e7]; exact n_sub (by omega) (by omega)
      refine aw_step (f1 := (133, [some (.ref 39), some (.ref 3), some (.int L), some (.int n), some (.int tg), some (.int k), o6], [(.int k), (.int x6), (.ref 39)])) (w1 := w) rfl rfl ?_
      refine s_i (pc1 := 134) (ls1 := [some (.ref 39), some (.ref 3), some (.int L), some (.int n), some (.int tg), some (.int k), o6]) (st1 := [(.int k), (.int x6), (.ref 39)]) rfl rfl fun x8 e9 => ?_
      have e9t : x8.toInt = 0 := by rw [e9]; rfl
      refine s_i (pc1 := 135) (ls1 := [some (.ref 39), some (.ref 3), some (.int L), some (.int n), some (.int tg), some (.int k), o6]) (st1 := [(.int x8), (.int k), (.int x6), (.ref 39)]) rfl rfl fun x10 e11 => ?_
      have e11t : x10.toInt = 0 := by rw [e11]; rfl
      have pl16 : 2 ^ (x6.toInt + 1).toNat ≤ 65536 := by
        have : 2 ^ (x6.toInt + 1).toNat ≤ 2 ^ 16 := Nat.pow_le_pow_right (by decide) (by omega)
        exact this
      refine s_cs (z := 19) (as := [(.ref 39), (.int x6), (.int k), (.int x8), (.int x10)]) (st1 := []) 138 rfl rfl rfl rfl rfl rfl (Nat.le_of_ble_eq_true rfl) (Nat.le_of_ble_eq_true rfl) (Nat.le_of_ble_eq_true rfl) (e_seek (d := d) pk J.1 17 x6 k x8 x10 ⟨by omega, by omega⟩ ⟨by omega, by omega⟩ ⟨by omega, by omega⟩ (by omega) (by unfold sqP; exact ⟨0, by omega⟩) (by rw [show x10.toInt.toNat = 0 by omega, Nat.zero_add]; exact pl16) (by omega)) ?_
      rintro _ _ ⟨rfl, x12, rfl, x12b, x12t⟩
      refine ⟨rfl, ?_⟩
      show aw none _ 18 _ (138, [some (.ref 39), some (.ref 3), some (.int L), some (.int n), some (.int tg), some (.int k), o6], [(.int x12)]) w
      have ck : ∀ T, ckP V L.toInt x6.toInt k.toInt x8.toInt.toNat T ↔ slP V L.toInt T ∧ (cnt T 64 : Int) ≤ k.toInt := fun T => by
        rw [show x8.toInt.toNat = 0 by omega]
        constructor
        · rintro ⟨a1, a2, a3⟩
          refine ⟨⟨fun c hc => (a1 c hc).2, fun j hj => ?_⟩, by omega⟩
          rcases a3 j hj with u | u
          · rw [bt_z] at u; omega
          · exact u
        · rintro ⟨⟨a1, a2⟩, a3⟩
          exact ⟨fun c hc => ⟨by have := (a1 c hc).1; omega, a1 c hc⟩, by omega, fun j hj => Or.inr (a2 j hj)⟩
      refine aw_step (f1 := (140, [some (.ref 39), some (.ref 3), some (.int L), some (.int n), some (.int tg), some (.int k), some (.int x12)], [])) (w1 := w) rfl rfl ?_
      refine aw_step (f1 := (142, [some (.ref 39), some (.ref 3), some (.int L), some (.int n), some (.int tg), some (.int k), some (.int x12)], [(.int x12)])) (w1 := w) rfl rfl ?_
      refine s_i (pc1 := 144) (ls1 := [some (.ref 39), some (.ref 3), some (.int L), some (.int n), some (.int tg), some (.int k), some (.int x12)]) (st1 := [(.int x12)]) rfl rfl fun x13 e14 => ?_
      have e14t : x13.toInt = -6 := by rw [e14]; rfl
      refine s_ic 150 147 rfl rfl rfl (fun (h15 : x12.toInt = x13.toInt) => ?_) (fun (h15 : ¬ (x12.toInt = x13.toInt)) => ?_)
      · --
        refine aw_step (f1 := (153, [some (.ref 39), some (.ref 3), some (.int L), some (.int n), some (.int tg), some (.int (k + Int32.ofInt 1)), some (.int x12)], [])) (w1 := w) rfl rfl ?_
        obtain ⟨x16, x16e⟩ : ∃ z, z = (k + Int32.ofInt 1) := ⟨_, rfl⟩
        have x16t : x16.toInt = k.toInt + (1) := by rw [x16e]; exact n_add (y := Int32.ofInt (1)) (by show _ ≤ _ + (1 : Int); omega) (by show _ + (1 : Int) ≤ _; omega)
        rw [← x16e]
        refine aw_step (f1 := (121, [some (.ref 39), some (.ref 3), some (.int L), some (.int n), some (.int tg), some (.int x16), some (.int x12)], [])) (w1 := w) rfl rfl ?_
        refine ih x16 _ (by omega) (by omega) (by omega) (fun a ha U hU hc => ?_)
        by_cases e : a = k.toInt.toNat
        · rcases x12t with ⟨q, q2⟩ | ⟨T, t1, t2, t3⟩
          · exact q2 U ((ck U).mpr ⟨hU, by omega⟩)
          · omega
        · exact N a (by omega) U hU hc
      · --
        refine aw_step (f1 := (149, [some (.ref 39), some (.ref 3), some (.int L), some (.int n), some (.int tg), some (.int k), some (.int x12)], [(.int x12)])) (w1 := w) rfl rfl ?_
        refine aw_ret (v := some (.int x12)) rfl rfl ?_
        rcases x12t with ⟨q, -⟩ | ⟨T, t1, t2, t3⟩
        · exact absurd q (by omega)
        · obtain ⟨s1, s2⟩ := (ck T).mp t1
          refine ⟨J, x12, rfl, T, ⟨s1, fun U hU => ?_⟩, by omega, by omega⟩
          by_cases u : (cnt U 64 : Int) ≤ k.toInt
          · have le := t3 U ((ck U).mpr ⟨hU, u⟩)
            have ge : ¬ ((cnt U 64 : Int) ≤ k.toInt - 1) := fun v => N (cnt U 64) (by omega) U hU (by omega)
            have gt : ¬ ((cnt T 64 : Int) ≤ k.toInt - 1) := fun v => N (cnt T 64) (by omega) T s1 (by omega)
            omega
          · have gt : ¬ ((cnt T 64 : Int) ≤ k.toInt - 1) := fun v => N (cnt T 64) (by omega) T s1 (by omega)
            omega
theorem e_fwL {d : Nat} {w00 : am_W} {V : Nat → Int} {D : Int} (R00 : RCs w00 3 V) (hz : 1 ≤ szV V ∧ szV V ≤ 16) (L n : Int32) (hL : 1 ≤ L.toInt ∧ L.toInt ≤ 50) (hn : n.toInt = szV V) (hD0 : 0 ≤ D ∧ D < 65536) (hD1 : ∀ j, bt D.toNat j = 1 ↔ ldN V j) : ∀ (m : Nat) (w : am_W) (tg i : Int32) (o6 : Option Value), (szV V - i.toInt).toNat < m → 0 ≤ i.toInt → i.toInt ≤ szV V → (0 ≤ tg.toInt ∧ tg.toInt < 65536) → ab_J ab_TT ab_sets ab_WR w00 w → only [39, 40, 41] w00 w → fI w 39 2 = D → fwI w V L.toInt i.toInt tg.toInt.toNat → aw none (d + 19) 18 (fun r w1 => ab_J ab_TT ab_sets ab_WR w00 w1 ∧ ∃ z : Int32, r = some (.int z) ∧ ∃ T, bsP V L.toInt T ∧ z.toInt = T ∧ T < 65536) (30, [some (.ref 39), some (.ref 3), some (.int L), some (.int n), some (.int tg), some (.int i), o6], []) w := by
  intro m
  induction m with
  | zero => intro w tg i o6 p; omega
  | succ m ih =>
    intro w tg i o6 p1 p2 p3 p4 J O hD F
    have R := R00.of O (by decide)
    have szc := szC_in J.1
    have hsz := R.sz
    have f3 := F.2.2
    refine aw_step (f1 := (32, [some (.ref 39), some (.ref 3), some (.int L), some (.int n), some (.int tg), some (.int i), o6], [(.int i)])) (w1 := w) rfl rfl ?_
    refine aw_step (f1 := (33, [some (.ref 39), some (.ref 3), some (.int L), some (.int n), some (.int tg), some (.int i), o6], [(.int n), (.int i)])) (w1 := w) rfl rfl ?_
    refine s_ic 118 36 rfl rfl rfl (fun (h1 : n.toInt ≤ i.toInt) => ?_) (fun (h1 : ¬ (n.toInt ≤ i.toInt)) => ?_)
    · --
      refine s_i (pc1 := 119) (ls1 := [some (.ref 39), some (.ref 3), some (.int L), some (.int n), some (.int tg), some (.int i), o6]) (st1 := []) rfl rfl fun x2 e3 => ?_
      have e3t : x2.toInt = 0 := by rw [e3]; rfl
      refine aw_step (f1 := (121, [some (.ref 39), some (.ref 3), some (.int L), some (.int n), some (.int tg), some (.int x2), o6], [])) (w1 := w) rfl rfl ?_
      have z16 : 1 ≤ szV V ∧ szV V ≤ 16 := ⟨by omega, by omega⟩
      rw [show i.toInt = szV V by omega] at F
      have pk : pkP w V L.toInt := ⟨z16, by rw [hD]; exact hD0, fun j => by rw [hD]; exact hD1 j, fun c h => (F.1 c h).1, fun c j h => (F.1 c h).2.1 j, fun c h => (F.1 c h).2.2.1, fun c j h => (F.1 c h).2.2.2.1 j, by have := F.2.2; omega, fun c h => (F.1 c h).2.2.2.2⟩
      exact e_fwM (w00 := w00) L n tg pk J (by omega) 18 x2 _ (by omega) (by omega) (by omega) (fun k hk => by omega)
    · --
      refine aw_step (f1 := (37, [some (.ref 39), some (.ref 3), some (.int L), some (.int n), some (.int tg), some (.int i), o6], [(.ref 39)])) (w1 := w) rfl rfl ?_
      refine s_gr 40 J 40 rfl rfl rfl rfl rfl rfl ?_
      refine aw_step (f1 := (42, [some (.ref 39), some (.ref 3), some (.int L), some (.int n), some (.int tg), some (.int i), o6], [(.int i), (.ref 40)])) (w1 := w) rfl rfl ?_
      refine aw_step (f1 := (43, [some (.ref 39), some (.ref 3), some (.int L), some (.int n), some (.int tg), some (.int i), o6], [(.ref 3), (.int i), (.ref 40)])) (w1 := w) rfl rfl ?_
      refine aw_step (f1 := (45, [some (.ref 39), some (.ref 3), some (.int L), some (.int n), some (.int tg), some (.int i), o6], [(.int i), (.ref 3), (.int i), (.ref 40)])) (w1 := w) rfl rfl ?_
      refine s_cv (z := 40) (p := 3) (as := [(.int i)]) (st1 := [(.int i), (.ref 40)]) J 48 rfl rfl rfl rfl rfl rfl rfl rfl (Nat.le_of_ble_eq_true rfl) (Nat.le_of_ble_eq_true rfl) (q_isDry R i J.1) ?_
      rintro _ _ ⟨rfl, x4, rfl, x4t⟩
      refine ⟨rfl, ?_⟩
      show aw none _ 18 _ (48, [some (.ref 39), some (.ref 3), some (.int L), some (.int n), some (.int tg), some (.int i), o6], [(.int x4), (.int i), (.ref 40)]) w
      --
      refine s_if 68 51 rfl rfl rfl (fun (h5 : x4.toInt = 0) => ?_) (fun (h5 : ¬ (x4.toInt = 0)) => ?_)
      · --
        refine s_i (pc1 := 69) (ls1 := [some (.ref 39), some (.ref 3), some (.int L), some (.int n), some (.int tg), some (.int i), o6]) (st1 := [(.int i), (.ref 40)]) rfl rfl fun x6 e7 => ?_
        have e7t : x6.toInt = 0 := by rw [e7]; rfl
        have lnd : ¬ ldN V i.toInt.toNat := fun z => by have z1 := z.1; have z2 := z.2; omega
        have svb : ∀ j, bt x6.toInt.toNat j = 1 ↔ ldN V i.toInt.toNat ∧ svP V L.toInt i.toInt.toNat j := fun j => by rw [show x6.toInt.toNat = 0 by omega, bt_z]; exact ⟨fun z => by omega, fun z => absurd z.1 lnd⟩
        refine s_is J 70 rfl rfl rfl rfl (by omega) (by omega) (by omega) (by omega) fun w8 J9 w8e => ?_
        have w8f := rI_st J.1 (p := 40) (j := i.toInt.toNat) rfl (by omega) w8e
        refine aw_step (f1 := (72, [some (.ref 39), some (.ref 3), some (.int L), some (.int n), some (.int tg), some (.int i), o6], [(.int tg)])) (w1 := w8) rfl rfl ?_
        refine aw_step (f1 := (73, [some (.ref 39), some (.ref 3), some (.int L), some (.int n), some (.int tg), some (.int i), o6], [(.ref 39), (.int tg)])) (w1 := w8) rfl rfl ?_
        refine s_gr 40 J9 76 rfl rfl rfl rfl rfl rfl ?_
        refine aw_step (f1 := (78, [some (.ref 39), some (.ref 3), some (.int L), some (.int n), some (.int tg), some (.int i), o6], [(.int i), (.ref 40), (.int tg)])) (w1 := w8) rfl rfl ?_
        refine s_ia J9 79 rfl rfl rfl rfl (by omega) (by omega) fun x10 x10a x10b x10f => ?_
        --
        have r1e : x10.toInt = x6.toInt := by rw [← rI_of x10f]; exact w8f.2.1
        refine s_i (pc1 := 80) (ls1 := [some (.ref 39), some (.ref 3), some (.int L), some (.int n), some (.int tg), some (.int i), o6]) (st1 := []) rfl rfl fun x11 e12 => ?_
        have e12 : x11 = tg ||| x10 := e12
        have ntg : n32 tg = tg.toInt.toNat := by have := n32_of (x := tg) (by omega); omega
        have nr1 : n32 x10 = x6.toInt.toNat := by have := n32_of (x := x10) (by omega); omega
        have nt2 : n32 x11 = tg.toInt.toNat ||| x6.toInt.toNat := by rw [e12, n32_or, ntg, nr1]
        have t216 : n32 x11 < 2 ^ 16 := by
          rw [nt2]
          exact Nat.or_lt_two_pow (by omega) (by omega)
        have t2i : x11.toInt = (n32 x11 : Int) := n32_toInt (by omega)
        have t2b : ∀ j, bt x11.toInt.toNat j = 1 ↔ ∃ q : Nat, (q : Int) < i.toInt + 1 ∧ ldN V q ∧ svP V L.toInt q j := fun j => by
          rw [show x11.toInt.toNat = tg.toInt.toNat ||| x6.toInt.toNat by omega, bt_or]
          have l1 := bt_le tg.toInt.toNat j
          have l2 := bt_le x6.toInt.toNat j
          have a := F.2.1 j
          have b := svb j
          constructor
          · intro u
            by_cases z : bt tg.toInt.toNat j = 1
            · obtain ⟨q, q1, q2⟩ := a.mp z
              exact ⟨q, by omega, q2⟩
            · have := b.mp (by omega)
              exact ⟨i.toInt.toNat, by omega, this⟩
          · rintro ⟨q, q1, q2⟩
            by_cases z : q = i.toInt.toNat
            · rw [z] at q2
              have := b.mpr q2
              omega
            · have := a.mpr ⟨q, by omega, q2⟩
              omega
        refine aw_step (f1 := (82, [some (.ref 39), some (.ref 3), some (.int L), some (.int n), some (.int x11), some (.int i), o6], [])) (w1 := w8) rfl rfl ?_
        refine aw_step (f1 := (83, [some (.ref 39), some (.ref 3), some (.int L), some (.int n), some (.int x11), some (.int i), o6], [(.ref 39)])) (w1 := w8) rfl rfl ?_
        refine s_gr 41 J9 86 rfl rfl rfl rfl rfl rfl ?_
        refine aw_step (f1 := (88, [some (.ref 39), some (.ref 3), some (.int L), some (.int n), some (.int x11), some (.int i), o6], [(.int i), (.ref 41)])) (w1 := w8) rfl rfl ?_
        refine aw_step (f1 := (90, [some (.ref 39), some (.ref 3), some (.int L), some (.int n), some (.int x11), some (.int i), o6], [(.int x11), (.int i), (.ref 41)])) (w1 := w8) rfl rfl ?_
        refine s_is J9 91 rfl rfl rfl rfl (by omega) (by omega) (by omega) (by omega) fun w13 J14 w13e => ?_
        have w13f := rI_st J9.1 (p := 41) (j := i.toInt.toNat) rfl (by omega) w13e
        refine aw_step (f1 := (92, [some (.ref 39), some (.ref 3), some (.int L), some (.int n), some (.int x11), some (.int i), o6], [(.ref 39)])) (w1 := w13) rfl rfl ?_
        refine aw_step (f1 := (93, [some (.ref 39), some (.ref 3), some (.int L), some (.int n), some (.int x11), some (.int i), o6], [(.ref 39), (.ref 39)])) (w1 := w13) rfl rfl ?_
        refine s_gi J14 96 rfl rfl rfl rfl rfl rfl fun x15 x15a x15b x15f => ?_
        have x15v : x15.toInt = fI w 39 3 := by rw [← fI_of x15f, w13f.1.fIe (by decide), w8f.1.fIe (by decide)]
        refine aw_step (f1 := (97, [some (.ref 39), some (.ref 3), some (.int L), some (.int n), some (.int x11), some (.int i), o6], [(.ref 39), (.int x15), (.ref 39)])) (w1 := w13) rfl rfl ?_
        refine s_gr 40 J14 100 rfl rfl rfl rfl rfl rfl ?_
        refine aw_step (f1 := (102, [some (.ref 39), some (.ref 3), some (.int L), some (.int n), some (.int x11), some (.int i), o6], [(.int i), (.ref 40), (.int x15), (.ref 39)])) (w1 := w13) rfl rfl ?_
        refine s_ia J14 103 rfl rfl rfl rfl (by omega) (by omega) fun x16 x16a x16b x16f => ?_
        --
        have r2e : x16.toInt = x6.toInt := by rw [← rI_of x16f, w13f.1.rIe (by decide)]; exact w8f.2.1
        refine s_cs (z := 187) (as := [(.int x16)]) (st1 := [(.int x15), (.ref 39)]) 106 rfl rfl rfl rfl rfl rfl (Nat.le_of_ble_eq_true rfl) (Nat.le_of_ble_eq_true rfl) (Nat.le_of_ble_eq_true rfl) (q_bc16 x16 (by omega) (by omega)) ?_
        rintro _ _ ⟨rfl, x17, rfl, x17t⟩
        refine ⟨rfl, ?_⟩
        show aw none _ 18 _ (106, [some (.ref 39), some (.ref 3), some (.int L), some (.int n), some (.int x11), some (.int i), o6], [(.int x17), (.int x15), (.ref 39)]) w13
        have x17c := cnt_le x16.toInt.toNat 64
        --
        refine s_i (pc1 := 109) (ls1 := [some (.ref 39), some (.ref 3), some (.int L), some (.int n), some (.int x11), some (.int i), o6]) (st1 := [(.ref 39)]) rfl rfl fun x18 e19 => ?_
        have e19t : x18.toInt = if x15.toInt < x17.toInt then x17.toInt else x15.toInt := by rw [e19]; exact n_mx
        have cle : cnt x6.toInt.toNat 64 ≤ 16 := by
          have e := cnt_top (n := x6.toInt.toNat) (m := 16) (bt_lt fun j hj => by
            have := (svb j).mp hj
            exact svP_16 (by omega) this.1 this.2) 48
          rw [show 16 + 48 = 64 from rfl] at e
          have := cnt_le x6.toInt.toNat 16
          omega
        have wmx : fI w 39 3 ≤ x18.toInt ∧ (cnt x6.toInt.toNat 64 : Int) ≤ x18.toInt ∧ x18.toInt ≤ 16 ∧ 0 ≤ x18.toInt := by
          have f3 := F.2.2
          have e1 := x17t
          rw [show x16.toInt.toNat = x6.toInt.toNat by omega] at e1
          rw [e19t]
          split <;> omega
        refine s_pi J14 112 rfl rfl rfl rfl rfl rfl rfl (by omega) (by omega) fun w20 J21 w20e => ?_
        have w20f := fv_st J14.1 (p := 39) (kf := 3) rfl (by decide) w20e
        refine aw_step (f1 := (115, [some (.ref 39), some (.ref 3), some (.int L), some (.int n), some (.int x11), some (.int (i + Int32.ofInt 1)), o6], [])) (w1 := w20) rfl rfl ?_
        obtain ⟨x22, x22e⟩ : ∃ z, z = (i + Int32.ofInt 1) := ⟨_, rfl⟩
        have x22t : x22.toInt = i.toInt + (1) := by rw [x22e]; exact n_add (y := Int32.ofInt (1)) (by show _ ≤ _ + (1 : Int); omega) (by show _ + (1 : Int) ≤ _; omega)
        rw [← x22e]
        refine aw_step (f1 := (30, [some (.ref 39), some (.ref 3), some (.int L), some (.int n), some (.int x11), some (.int x22), o6], [])) (w1 := w20) rfl rfl ?_
        refine ih w20 x11 x22 _ (by omega) (by omega) (by omega) ⟨by omega, by omega⟩ J21 (((O.trans (oc w8f.1 (by decide))).trans (oc w13f.1 (by decide))).trans (oc w20f.1 (by decide))) (by rw [fI_eq (w20f.2.2 2 (by decide)), w13f.1.fIe (by decide), w8f.1.fIe (by decide)]; exact hD) ?_
        have w3 : fI w20 39 3 = x18.toInt := fI_of w20f.2.1
        refine ⟨fun q hq => ?_, ?_, by omega⟩
        · rw [w3, w20f.1.rIe (p := 40) (by decide), w20f.1.rIe (p := 41) (by decide), w13f.1.rIe (p := 40) (by decide)]
          by_cases e : q = i.toInt.toNat
          · rw [e, w8f.2.1, w13f.2.1]
            refine ⟨by omega, svb, by omega, fun j => ?_, by omega⟩
            rw [t2b j]
            exact ⟨fun ⟨p, p1, p2⟩ => ⟨p, by omega, p2⟩, fun ⟨p, p1, p2⟩ => ⟨p, by omega, p2⟩⟩
          · rw [w8f.2.2 q e, w13f.2.2 q e, w8f.1.rIe (p := 41) (by decide)]
            obtain ⟨f1, f2, f3, f4, f5⟩ := F.1 q (by omega)
            exact ⟨f1, f2, f3, f4, by omega⟩
        · rw [show x22.toInt = i.toInt + 1 by omega]
          exact t2b
      · --
        refine aw_step (f1 := (52, [some (.ref 39), some (.ref 3), some (.int L), some (.int n), some (.int tg), some (.int i), o6], [(.ref 3), (.int i), (.ref 40)])) (w1 := w) rfl rfl ?_
        refine aw_step (f1 := (53, [some (.ref 39), some (.ref 3), some (.int L), some (.int n), some (.int tg), some (.int i), o6], [(.int L), (.ref 3), (.int i), (.ref 40)])) (w1 := w) rfl rfl ?_
        refine aw_step (f1 := (55, [some (.ref 39), some (.ref 3), some (.int L), some (.int n), some (.int tg), some (.int i), o6], [(.int i), (.int L), (.ref 3), (.int i), (.ref 40)])) (w1 := w) rfl rfl ?_
        --
        refine s_cv (z := 44) (p := 3) (as := [(.int L), (.int i)]) (st1 := [(.int i), (.ref 40)]) J 58 rfl rfl rfl rfl rfl rfl rfl rfl (Nat.le_of_ble_eq_true rfl) (Nat.le_of_ble_eq_true rfl) (e_reach R L i ⟨by omega, by omega⟩ ⟨by omega, by omega⟩ J.1) ?_
        rintro _ _ ⟨rfl, y23, rfl, y23t⟩
        refine ⟨rfl, ?_⟩
        show aw none _ 18 _ (58, [some (.ref 39), some (.ref 3), some (.int L), some (.int n), some (.int tg), some (.int i), o6], [(.long y23), (.int i), (.ref 40)]) w
        have lsL : lsV V L.toInt (i.toInt.toNat : Nat) (n64 y23) := by rw [show ((i.toInt.toNat : Nat) : Int) = i.toInt by omega]; exact y23t
        refine aw_step (f1 := (60, [some (.ref 39), some (.ref 3), some (.int L), some (.int n), some (.int tg), some (.int i), o6], [(.int i), (.long y23), (.int i), (.ref 40)])) (w1 := w) rfl rfl ?_
        refine s_cs (z := 104) (as := [(.int i)]) (st1 := [(.long y23), (.int i), (.ref 40)]) 63 rfl rfl rfl rfl rfl rfl (Nat.le_of_ble_eq_true rfl) (Nat.le_of_ble_eq_true rfl) (Nat.le_of_ble_eq_true rfl) (q_bit i) ?_
        rintro _ _ ⟨rfl, y24, rfl, y24e⟩
        refine ⟨rfl, ?_⟩
        show aw none _ 18 _ (63, [some (.ref 39), some (.ref 3), some (.int L), some (.int n), some (.int tg), some (.int i), o6], [(.long y24), (.long y23), (.int i), (.ref 40)]) w
        have y24b : n64 y24 = 2 ^ i.toInt.toNat := by rw [y24e]; exact n64_shl (by omega) (by omega) rfl
        refine s_l (pc1 := 64) (ls1 := [some (.ref 39), some (.ref 3), some (.int L), some (.int n), some (.int tg), some (.int i), o6]) (st1 := [(.int i), (.ref 40)]) rfl rfl fun y25 e26 => ?_
        have e26 : y25 = y23 ||| y24 := e26
        have lnd : ldN V i.toInt.toNat := ⟨by omega, by omega⟩
        have gv := gv_y (V := V) (L := L.toInt) (c := i.toInt.toNat) (v := n64 y25) lnd lsL y24b (by rw [e26, n64_or])
        have y16 : n64 y25 < 2 ^ 16 := bt_lt fun j hj => svP_16 (by omega) lnd ((gv j).mp hj).2
        have yi : y25.toInt = (n64 y25 : Int) := n64_toInt (by omega)
        refine s_i (pc1 := 65) (ls1 := [some (.ref 39), some (.ref 3), some (.int L), some (.int n), some (.int tg), some (.int i), o6]) (st1 := [(.int i), (.ref 40)]) rfl rfl fun x27 e28 => ?_
        have e28 : x27 = y25.toInt32 := e28
        have svi : x27.toInt = (n64 y25 : Int) := by rw [e28, l_i (by omega) (by omega)]; exact yi
        have svb : ∀ j, bt x27.toInt.toNat j = 1 ↔ ldN V i.toInt.toNat ∧ svP V L.toInt i.toInt.toNat j := fun j => by rw [show x27.toInt.toNat = n64 y25 by omega]; exact gv j
        refine aw_step (f1 := (69, [some (.ref 39), some (.ref 3), some (.int L), some (.int n), some (.int tg), some (.int i), o6], [(.int x27), (.int i), (.ref 40)])) (w1 := w) rfl rfl ?_
        --
        refine s_is J 70 rfl rfl rfl rfl (by omega) (by omega) (by omega) (by omega) fun w29 J30 w29e => ?_
        have w29f := rI_st J.1 (p := 40) (j := i.toInt.toNat) rfl (by omega) w29e
        refine aw_step (f1 := (72, [some (.ref 39), some (.ref 3), some (.int L), some (.int n), some (.int tg), some (.int i), o6], [(.int tg)])) (w1 := w29) rfl rfl ?_
        refine aw_step (f1 := (73, [some (.ref 39), some (.ref 3), some (.int L), some (.int n), some (.int tg), some (.int i), o6], [(.ref 39), (.int tg)])) (w1 := w29) rfl rfl ?_
        refine s_gr 40 J30 76 rfl rfl rfl rfl rfl rfl ?_
        refine aw_step (f1 := (78, [some (.ref 39), some (.ref 3), some (.int L), some (.int n), some (.int tg), some (.int i), o6], [(.int i), (.ref 40), (.int tg)])) (w1 := w29) rfl rfl ?_
        refine s_ia J30 79 rfl rfl rfl rfl (by omega) (by omega) fun x31 x31a x31b x31f => ?_
        --
        have r1e : x31.toInt = x27.toInt := by rw [← rI_of x31f]; exact w29f.2.1
        refine s_i (pc1 := 80) (ls1 := [some (.ref 39), some (.ref 3), some (.int L), some (.int n), some (.int tg), some (.int i), o6]) (st1 := []) rfl rfl fun x32 e33 => ?_
        have e33 : x32 = tg ||| x31 := e33
        have ntg : n32 tg = tg.toInt.toNat := by have := n32_of (x := tg) (by omega); omega
        have nr1 : n32 x31 = x27.toInt.toNat := by have := n32_of (x := x31) (by omega); omega
        have nt2 : n32 x32 = tg.toInt.toNat ||| x27.toInt.toNat := by rw [e33, n32_or, ntg, nr1]
        have t216 : n32 x32 < 2 ^ 16 := by
          rw [nt2]
          exact Nat.or_lt_two_pow (by omega) (by omega)
        have t2i : x32.toInt = (n32 x32 : Int) := n32_toInt (by omega)
        have t2b : ∀ j, bt x32.toInt.toNat j = 1 ↔ ∃ q : Nat, (q : Int) < i.toInt + 1 ∧ ldN V q ∧ svP V L.toInt q j := fun j => by
          rw [show x32.toInt.toNat = tg.toInt.toNat ||| x27.toInt.toNat by omega, bt_or]
          have l1 := bt_le tg.toInt.toNat j
          have l2 := bt_le x27.toInt.toNat j
          have a := F.2.1 j
          have b := svb j
          constructor
          · intro u
            by_cases z : bt tg.toInt.toNat j = 1
            · obtain ⟨q, q1, q2⟩ := a.mp z
              exact ⟨q, by omega, q2⟩
            · have := b.mp (by omega)
              exact ⟨i.toInt.toNat, by omega, this⟩
          · rintro ⟨q, q1, q2⟩
            by_cases z : q = i.toInt.toNat
            · rw [z] at q2
              have := b.mpr q2
              omega
            · have := a.mpr ⟨q, by omega, q2⟩
              omega
        refine aw_step (f1 := (82, [some (.ref 39), some (.ref 3), some (.int L), some (.int n), some (.int x32), some (.int i), o6], [])) (w1 := w29) rfl rfl ?_
        refine aw_step (f1 := (83, [some (.ref 39), some (.ref 3), some (.int L), some (.int n), some (.int x32), some (.int i), o6], [(.ref 39)])) (w1 := w29) rfl rfl ?_
        refine s_gr 41 J30 86 rfl rfl rfl rfl rfl rfl ?_
        refine aw_step (f1 := (88, [some (.ref 39), some (.ref 3), some (.int L), some (.int n), some (.int x32), some (.int i), o6], [(.int i), (.ref 41)])) (w1 := w29) rfl rfl ?_
        refine aw_step (f1 := (90, [some (.ref 39), some (.ref 3), some (.int L), some (.int n), some (.int x32), some (.int i), o6], [(.int x32), (.int i), (.ref 41)])) (w1 := w29) rfl rfl ?_
        refine s_is J30 91 rfl rfl rfl rfl (by omega) (by omega) (by omega) (by omega) fun w34 J35 w34e => ?_
        have w34f := rI_st J30.1 (p := 41) (j := i.toInt.toNat) rfl (by omega) w34e
        refine aw_step (f1 := (92, [some (.ref 39), some (.ref 3), some (.int L), some (.int n), some (.int x32), some (.int i), o6], [(.ref 39)])) (w1 := w34) rfl rfl ?_
        refine aw_step (f1 := (93, [some (.ref 39), some (.ref 3), some (.int L), some (.int n), some (.int x32), some (.int i), o6], [(.ref 39), (.ref 39)])) (w1 := w34) rfl rfl ?_
        refine s_gi J35 96 rfl rfl rfl rfl rfl rfl fun x36 x36a x36b x36f => ?_
        have x36v : x36.toInt = fI w 39 3 := by rw [← fI_of x36f, w34f.1.fIe (by decide), w29f.1.fIe (by decide)]
        refine aw_step (f1 := (97, [some (.ref 39), some (.ref 3), some (.int L), some (.int n), some (.int x32), some (.int i), o6], [(.ref 39), (.int x36), (.ref 39)])) (w1 := w34) rfl rfl ?_
        refine s_gr 40 J35 100 rfl rfl rfl rfl rfl rfl ?_
        refine aw_step (f1 := (102, [some (.ref 39), some (.ref 3), some (.int L), some (.int n), some (.int x32), some (.int i), o6], [(.int i), (.ref 40), (.int x36), (.ref 39)])) (w1 := w34) rfl rfl ?_
        refine s_ia J35 103 rfl rfl rfl rfl (by omega) (by omega) fun x37 x37a x37b x37f => ?_
        --
        have r2e : x37.toInt = x27.toInt := by rw [← rI_of x37f, w34f.1.rIe (by decide)]; exact w29f.2.1
        refine s_cs (z := 187) (as := [(.int x37)]) (st1 := [(.int x36), (.ref 39)]) 106 rfl rfl rfl rfl rfl rfl (Nat.le_of_ble_eq_true rfl) (Nat.le_of_ble_eq_true rfl) (Nat.le_of_ble_eq_true rfl) (q_bc16 x37 (by omega) (by omega)) ?_
        rintro _ _ ⟨rfl, x38, rfl, x38t⟩
        refine ⟨rfl, ?_⟩
        show aw none _ 18 _ (106, [some (.ref 39), some (.ref 3), some (.int L), some (.int n), some (.int x32), some (.int i), o6], [(.int x38), (.int x36), (.ref 39)]) w34
        have x38c := cnt_le x37.toInt.toNat 64
        --
        refine s_i (pc1 := 109) (ls1 := [some (.ref 39), some (.ref 3), some (.int L), some (.int n), some (.int x32), some (.int i), o6]) (st1 := [(.ref 39)]) rfl rfl fun x39 e40 => ?_
        have e40t : x39.toInt = if x36.toInt < x38.toInt then x38.toInt else x36.toInt := by rw [e40]; exact n_mx
        have cle : cnt x27.toInt.toNat 64 ≤ 16 := by
          have e := cnt_top (n := x27.toInt.toNat) (m := 16) (bt_lt fun j hj => by
            have := (svb j).mp hj
            exact svP_16 (by omega) this.1 this.2) 48
          rw [show 16 + 48 = 64 from rfl] at e
          have := cnt_le x27.toInt.toNat 16
          omega
        have wmx : fI w 39 3 ≤ x39.toInt ∧ (cnt x27.toInt.toNat 64 : Int) ≤ x39.toInt ∧ x39.toInt ≤ 16 ∧ 0 ≤ x39.toInt := by
          have f3 := F.2.2
          have e1 := x38t
          rw [show x37.toInt.toNat = x27.toInt.toNat by omega] at e1
          rw [e40t]
          split <;> omega
        refine s_pi J35 112 rfl rfl rfl rfl rfl rfl rfl (by omega) (by omega) fun w41 J42 w41e => ?_
        have w41f := fv_st J35.1 (p := 39) (kf := 3) rfl (by decide) w41e
        refine aw_step (f1 := (115, [some (.ref 39), some (.ref 3), some (.int L), some (.int n), some (.int x32), some (.int (i + Int32.ofInt 1)), o6], [])) (w1 := w41) rfl rfl ?_
        obtain ⟨x43, x43e⟩ : ∃ z, z = (i + Int32.ofInt 1) := ⟨_, rfl⟩
        have x43t : x43.toInt = i.toInt + (1) := by rw [x43e]; exact n_add (y := Int32.ofInt (1)) (by show _ ≤ _ + (1 : Int); omega) (by show _ + (1 : Int) ≤ _; omega)
        rw [← x43e]
        refine aw_step (f1 := (30, [some (.ref 39), some (.ref 3), some (.int L), some (.int n), some (.int x32), some (.int x43), o6], [])) (w1 := w41) rfl rfl ?_
        refine ih w41 x32 x43 _ (by omega) (by omega) (by omega) ⟨by omega, by omega⟩ J42 (((O.trans (oc w29f.1 (by decide))).trans (oc w34f.1 (by decide))).trans (oc w41f.1 (by decide))) (by rw [fI_eq (w41f.2.2 2 (by decide)), w34f.1.fIe (by decide), w29f.1.fIe (by decide)]; exact hD) ?_
        have w3 : fI w41 39 3 = x39.toInt := fI_of w41f.2.1
        refine ⟨fun q hq => ?_, ?_, by omega⟩
        · rw [w3, w41f.1.rIe (p := 40) (by decide), w41f.1.rIe (p := 41) (by decide), w34f.1.rIe (p := 40) (by decide)]
          by_cases e : q = i.toInt.toNat
          · rw [e, w29f.2.1, w34f.2.1]
            refine ⟨by omega, svb, by omega, fun j => ?_, by omega⟩
            rw [t2b j]
            exact ⟨fun ⟨p, p1, p2⟩ => ⟨p, by omega, p2⟩, fun ⟨p, p1, p2⟩ => ⟨p, by omega, p2⟩⟩
          · rw [w29f.2.2 q e, w34f.2.2 q e, w29f.1.rIe (p := 41) (by decide)]
            obtain ⟨f1, f2, f3, f4, f5⟩ := F.1 q (by omega)
            exact ⟨f1, f2, f3, f4, by omega⟩
        · rw [show x43.toInt = i.toInt + 1 by omega]
          exact t2b
theorem e_fewest {d : Nat} {w : am_W} {V : Nat → Int} (R : RCs w 3 V) (hz : 1 ≤ szV V ∧ szV V ≤ 16) (L : Int32) (hL : 1 ≤ L.toInt ∧ L.toInt ≤ 50) (I : ab_inv ab_TT ab_sets w) : aw none (d + 19) 18 (fun r w1 => ab_J ab_TT ab_sets ab_WR w w1 ∧ ∃ z : Int32, r = some (.int z) ∧ ∃ T, bsP V L.toInt T ∧ z.toInt = T ∧ T < 65536) (0, am_entry 18 [.ref 39, .ref 3, .int L], []) w := by
  have J : ab_J ab_TT ab_sets ab_WR w w := ⟨I, ab_fr.rf⟩
  have szc := szC_in I
  have hsz := R.sz
  show aw none (d + 19) 18 _ (0, [some (.ref 39), some (.ref 3), some (.int L), none, none, none, none], []) w
  refine aw_step (f1 := (1, [some (.ref 39), some (.ref 3), some (.int L), none, none, none, none], [(.ref 3)])) (w1 := w) rfl rfl ?_
  refine s_cv (z := 38) (p := 3) (as := []) (st1 := []) J 4 rfl rfl rfl rfl rfl rfl rfl rfl (Nat.le_of_ble_eq_true rfl) (Nat.le_of_ble_eq_true rfl) (q_size J.1) ?_
  rintro _ _ ⟨rfl, x1, rfl, x1t⟩
  refine ⟨rfl, ?_⟩
  show aw none _ 18 _ (4, [some (.ref 39), some (.ref 3), some (.int L), none, none, none, none], [(.int x1)]) w
  refine s_i (pc1 := 6) (ls1 := [some (.ref 39), some (.ref 3), some (.int L), none, none, none, none]) (st1 := [(.int x1)]) rfl rfl fun x2 e3 => ?_
  have e3t : x2.toInt = 16 := by rw [e3]; rfl
  refine s_i (pc1 := 9) (ls1 := [some (.ref 39), some (.ref 3), some (.int L), none, none, none, none]) (st1 := []) rfl rfl fun x4 e5 => ?_
  have e5t : x4.toInt = if x2.toInt < x1.toInt then x2.toInt else x1.toInt := by rw [e5]; exact n_mn
  refine aw_step (f1 := (10, [some (.ref 39), some (.ref 3), some (.int L), some (.int x4), none, none, none], [])) (w1 := w) rfl rfl ?_
  refine aw_step (f1 := (11, [some (.ref 39), some (.ref 3), some (.int L), some (.int x4), none, none, none], [(.ref 39)])) (w1 := w) rfl rfl ?_
  refine aw_step (f1 := (12, [some (.ref 39), some (.ref 3), some (.int L), some (.int x4), none, none, none], [(.ref 3), (.ref 39)])) (w1 := w) rfl rfl ?_
  refine s_gl J 15 rfl rfl rfl rfl rfl rfl fun y6 y6a y6b y6f => ?_
  --
  refine s_i (pc1 := 16) (ls1 := [some (.ref 39), some (.ref 3), some (.int L), some (.int x4), none, none, none]) (st1 := [(.ref 39)]) rfl rfl fun x7 e8 => ?_
  have e8 : x7 = y6.toInt32 := e8
  have b16 := Int32.le_toInt x7
  have b17 := Int32.toInt_lt x7
  refine s_pi J 19 rfl rfl rfl rfl rfl rfl rfl (by omega) (by omega) fun w9 J10 w9e => ?_
  have w9f := fv_st J.1 (p := 39) (kf := 2) rfl (by decide) w9e
  refine aw_step (f1 := (20, [some (.ref 39), some (.ref 3), some (.int L), some (.int x4), none, none, none], [(.ref 39)])) (w1 := w9) rfl rfl ?_
  refine s_i (pc1 := 21) (ls1 := [some (.ref 39), some (.ref 3), some (.int L), some (.int x4), none, none, none]) (st1 := [(.ref 39)]) rfl rfl fun x11 e12 => ?_
  have e12t : x11.toInt = 0 := by rw [e12]; rfl
  refine s_pi J10 24 rfl rfl rfl rfl rfl rfl rfl (by omega) (by omega) fun w13 J14 w13e => ?_
  have w13f := fv_st J10.1 (p := 39) (kf := 3) rfl (by decide) w13e
  refine s_i (pc1 := 25) (ls1 := [some (.ref 39), some (.ref 3), some (.int L), some (.int x4), none, none, none]) (st1 := []) rfl rfl fun x15 e16 => ?_
  have e16t : x15.toInt = 0 := by rw [e16]; rfl
  refine aw_step (f1 := (27, [some (.ref 39), some (.ref 3), some (.int L), some (.int x4), some (.int x15), none, none], [])) (w1 := w13) rfl rfl ?_
  refine s_i (pc1 := 28) (ls1 := [some (.ref 39), some (.ref 3), some (.int L), some (.int x4), some (.int x15), none, none]) (st1 := []) rfl rfl fun x17 e18 => ?_
  have e18t : x17.toInt = 0 := by rw [e18]; rfl
  refine aw_step (f1 := (30, [some (.ref 39), some (.ref 3), some (.int L), some (.int x4), some (.int x15), some (.int x17), none], [])) (w1 := w13) rfl rfl ?_
  have hd := R.2.2
  rw [fL_of y6f] at hd
  have y16 : n64 y6 < 2 ^ 16 := bt_lt fun j hj => by have := ((hd j).mp hj).1; omega
  have yi : y6.toInt = (n64 y6 : Int) := n64_toInt (by omega)
  have di : x7.toInt = (n64 y6 : Int) := by rw [e8, l_i (by omega) (by omega)]; exact yi
  have mn : x4.toInt = szV V := by
    rw [e5t]
    split <;> omega
  exact e_fwL (D := x7.toInt) R ⟨by omega, by omega⟩ L x4 hL mn ⟨by omega, by omega⟩ (fun j => by rw [show x7.toInt.toNat = n64 y6 by omega]; exact hd j) 17 w13 x15 x17 _ (by omega) (by omega) (by omega) ⟨by omega, by omega⟩ J14 ((oc w9f.1 (by decide)).trans (oc w13f.1 (by decide))) (by rw [fI_eq (w13f.2.2 2 (by decide)), fI_of w9f.2.1]) ⟨fun q hq => by omega, fun j => by
    rw [show x15.toInt.toNat = 0 by omega, bt_z]
    exact ⟨fun u => by omega, fun ⟨q, q1, _⟩ => by omega⟩, by rw [fI_of w13f.2.1]; omega⟩
theorem e_posts {d : Nat} {w : am_W} {V : Nat → Int} (R : RCs w 3 V) (b wh : Int32) (I : ab_inv ab_TT ab_sets w) : aw none (d + 20) 91 (fun r w1 => ab_J ab_TT ab_sets ab_WR w w1 ∧ ∃ z : Int32, r = some (.int z) ∧ posP V b.toInt wh.toInt z.toInt) (0, am_entry 91 [.ref 0, .int b, .int wh], []) w := by
  have J : ab_J ab_TT ab_sets ab_WR w w := ⟨I, ab_fr.rf⟩
  have szc := szC_in I
  have hsz := R.sz
  show aw none (d + 20) 91 _ (0, [some (.ref 0), some (.int b), some (.int wh), none], []) w
  refine aw_step (f1 := (1, [some (.ref 0), some (.int b), some (.int wh), none], [(.int b)])) (w1 := w) rfl rfl ?_
  refine s_cs (z := 103) (as := [(.int b)]) (st1 := []) 4 rfl rfl rfl rfl rfl rfl (Nat.le_of_ble_eq_true rfl) (Nat.le_of_ble_eq_true rfl) (Nat.le_of_ble_eq_true rfl) (q_isBoots b) ?_
  rintro _ _ ⟨rfl, x1, rfl, x1t⟩
  refine ⟨rfl, ?_⟩
  show aw none _ 91 _ (4, [some (.ref 0), some (.int b), some (.int wh), none], [(.int x1)]) w
  refine s_if 9 7 rfl rfl rfl (fun (h2 : ¬ x1.toInt = 0) => ?_) (fun (h2 : ¬ (¬ x1.toInt = 0)) => ?_)
  · --
    refine aw_step (f1 := (10, [some (.ref 0), some (.int b), some (.int wh), none], [(.int wh)])) (w1 := w) rfl rfl ?_
    refine s_i (pc1 := 11) (ls1 := [some (.ref 0), some (.int b), some (.int wh), none]) (st1 := [(.int wh)]) rfl rfl fun x3 e4 => ?_
    have e4t : x3.toInt = 0 := by rw [e4]; rfl
    refine s_i (pc1 := 12) (ls1 := [some (.ref 0), some (.int b), some (.int wh), none]) (st1 := [(.int x3), (.int wh)]) rfl rfl fun x5 e6 => ?_
    have e6t : x5.toInt = 1 := by rw [e6]; rfl
    refine s_cs (z := 102) (as := [(.int wh), (.int x3), (.int x5)]) (st1 := []) 15 rfl rfl rfl rfl rfl rfl (Nat.le_of_ble_eq_true rfl) (Nat.le_of_ble_eq_true rfl) (Nat.le_of_ble_eq_true rfl) (q_within wh x3 x5) ?_
    rintro _ _ ⟨rfl, x7, rfl, x7t⟩
    refine ⟨rfl, ?_⟩
    show aw none _ 91 _ (15, [some (.ref 0), some (.int b), some (.int wh), none], [(.int x7)]) w
    refine s_if 21 18 rfl rfl rfl (fun (h8 : ¬ x7.toInt = 0) => ?_) (fun (h8 : ¬ (¬ x7.toInt = 0)) => ?_)
    · --
      refine aw_step (f1 := (22, [some (.ref 0), some (.int b), some (.int wh), none], [(.ref 0)])) (w1 := w) rfl rfl ?_
      refine s_gr 3 J 25 rfl rfl rfl rfl rfl rfl ?_
      refine s_cv (z := 38) (p := 3) (as := []) (st1 := []) J 28 rfl rfl rfl rfl rfl rfl rfl rfl (Nat.le_of_ble_eq_true rfl) (Nat.le_of_ble_eq_true rfl) (q_size J.1) ?_
      rintro _ _ ⟨rfl, x9, rfl, x9t⟩
      refine ⟨rfl, ?_⟩
      show aw none _ 91 _ (28, [some (.ref 0), some (.int b), some (.int wh), none], [(.int x9)]) w
      refine s_i (pc1 := 30) (ls1 := [some (.ref 0), some (.int b), some (.int wh), none]) (st1 := [(.int x9)]) rfl rfl fun x10 e11 => ?_
      have e11t : x10.toInt = 16 := by rw [e11]; rfl
      refine s_ic 36 33 rfl rfl rfl (fun (h12 : x9.toInt ≤ x10.toInt) => ?_) (fun (h12 : ¬ (x9.toInt ≤ x10.toInt)) => ?_)
      · --
        refine aw_step (f1 := (37, [some (.ref 0), some (.int b), some (.int wh), none], [(.ref 0)])) (w1 := w) rfl rfl ?_
        refine s_gr 39 J 40 rfl rfl rfl rfl rfl rfl ?_
        refine aw_step (f1 := (41, [some (.ref 0), some (.int b), some (.int wh), none], [(.ref 0), (.ref 39)])) (w1 := w) rfl rfl ?_
        refine s_gr 3 J 44 rfl rfl rfl rfl rfl rfl ?_
        refine aw_step (f1 := (45, [some (.ref 0), some (.int b), some (.int wh), none], [(.ref 0), (.ref 3), (.ref 39)])) (w1 := w) rfl rfl ?_
        refine s_gr 3 J 48 rfl rfl rfl rfl rfl rfl ?_
        refine s_gr 7 J 51 rfl rfl rfl rfl rfl rfl ?_
        refine aw_step (f1 := (52, [some (.ref 0), some (.int b), some (.int wh), none], [(.int b), (.ref 7), (.ref 3), (.ref 39)])) (w1 := w) rfl rfl ?_
        refine s_ia J 53 rfl rfl rfl rfl (by omega) (by omega) fun x13 x13a x13b x13f => ?_
        have x13v : x13.toInt = rI w 7 b.toInt.toNat := by rw [← rI_of x13f]
        have hl : x13.toInt = V (8 + 4 * b.toInt.toNat + 0) := by rw [x13v]; exact R.rv (r := 4) (i := b.toInt.toNat) (by decide) (by decide) (by omega) (by show b.toInt.toNat < 4; omega)
        refine s_cv (z := 18) (p := 39) (as := [(.ref 3), (.int x13)]) (st1 := []) J 56 rfl rfl rfl rfl rfl rfl rfl rfl (Nat.le_of_ble_eq_true rfl) (Nat.le_of_ble_eq_true rfl) (e_fewest R ⟨by omega, by omega⟩ x13 ⟨by omega, by omega⟩ J.1) ?_
        rintro _ w15 ⟨J16c, x14, rfl, x14T, x14p, x14e, x14l⟩
        have J16 := J.trans J16c
        refine ⟨am_len2 J J16c, ?_⟩
        show aw none _ 91 _ (56, [some (.ref 0), some (.int b), some (.int wh), none], [(.int x14)]) w15
        rw [hl] at x14p
        refine aw_step (f1 := (57, [some (.ref 0), some (.int b), some (.int wh), some (.int x14)], [])) (w1 := w15) rfl rfl ?_
        refine aw_step (f1 := (58, [some (.ref 0), some (.int b), some (.int wh), some (.int x14)], [(.int wh)])) (w1 := w15) rfl rfl ?_
        refine s_if 68 61 rfl rfl rfl (fun (h17 : ¬ wh.toInt = 0) => ?_) (fun (h17 : ¬ (¬ wh.toInt = 0)) => ?_)
        · --
          refine aw_step (f1 := (69, [some (.ref 0), some (.int b), some (.int wh), some (.int x14)], [(.int x14)])) (w1 := w15) rfl rfl ?_
          refine aw_ret (v := some (.int x14)) rfl rfl ?_
          refine ⟨J16, x14, rfl, Or.inr (Or.inr (Or.inr ⟨by omega, by omega, by omega, x14T, x14p, ?_⟩))⟩
          first
            | exact Or.inr ⟨by omega, by omega⟩
            | exact Or.inl ⟨by omega, by rw [x14t, show x14.toInt.toNat = x14T by omega]⟩
        · --
          refine aw_step (f1 := (62, [some (.ref 0), some (.int b), some (.int wh), some (.int x14)], [(.int x14)])) (w1 := w15) rfl rfl ?_
          refine s_cs (z := 187) (as := [(.int x14)]) (st1 := []) 65 rfl rfl rfl rfl rfl rfl (Nat.le_of_ble_eq_true rfl) (Nat.le_of_ble_eq_true rfl) (Nat.le_of_ble_eq_true rfl) (q_bc16 x14 (by omega) (by omega)) ?_
          rintro _ _ ⟨rfl, x18, rfl, x18t⟩
          refine ⟨rfl, ?_⟩
          show aw none _ 91 _ (65, [some (.ref 0), some (.int b), some (.int wh), some (.int x14)], [(.int x18)]) w15
          have x18c := cnt_le x14.toInt.toNat 64
          refine aw_step (f1 := (69, [some (.ref 0), some (.int b), some (.int wh), some (.int x14)], [(.int x18)])) (w1 := w15) rfl rfl ?_
          refine aw_ret (v := some (.int x18)) rfl rfl ?_
          refine ⟨J16, x18, rfl, Or.inr (Or.inr (Or.inr ⟨by omega, by omega, by omega, x14T, x14p, ?_⟩))⟩
          first
            | exact Or.inr ⟨by omega, by omega⟩
            | exact Or.inl ⟨by omega, by rw [x18t, show x14.toInt.toNat = x14T by omega]⟩
      · --
        refine s_i (pc1 := 35) (ls1 := [some (.ref 0), some (.int b), some (.int wh), none]) (st1 := []) rfl rfl fun x19 e20 => ?_
        have e20t : x19.toInt = -4 := by rw [e20]; rfl
        refine aw_ret (v := some (.int x19)) rfl rfl ?_
        first
          | exact ⟨J, x19, rfl, Or.inl ⟨by omega, by omega⟩⟩
          | exact ⟨J, x19, rfl, Or.inr (Or.inl ⟨by omega, by omega, by omega⟩)⟩
          | exact ⟨J, x19, rfl, Or.inr (Or.inr (Or.inl ⟨by omega, by omega, by omega, by omega⟩))⟩
    · --
      refine s_i (pc1 := 20) (ls1 := [some (.ref 0), some (.int b), some (.int wh), none]) (st1 := []) rfl rfl fun x21 e22 => ?_
      have e22t : x21.toInt = -2 := by rw [e22]; rfl
      refine aw_ret (v := some (.int x21)) rfl rfl ?_
      first
        | exact ⟨J, x21, rfl, Or.inl ⟨by omega, by omega⟩⟩
        | exact ⟨J, x21, rfl, Or.inr (Or.inl ⟨by omega, by omega, by omega⟩)⟩
        | exact ⟨J, x21, rfl, Or.inr (Or.inr (Or.inl ⟨by omega, by omega, by omega, by omega⟩))⟩
  · --
    refine s_i (pc1 := 8) (ls1 := [some (.ref 0), some (.int b), some (.int wh), none]) (st1 := []) rfl rfl fun x23 e24 => ?_
    have e24t : x23.toInt = -1 := by rw [e24]; rfl
    refine aw_ret (v := some (.int x23)) rfl rfl ?_
    first
      | exact ⟨J, x23, rfl, Or.inl ⟨by omega, by omega⟩⟩
      | exact ⟨J, x23, rfl, Or.inr (Or.inl ⟨by omega, by omega, by omega⟩)⟩
      | exact ⟨J, x23, rfl, Or.inr (Or.inr (Or.inl ⟨by omega, by omega, by omega, by omega⟩))⟩
