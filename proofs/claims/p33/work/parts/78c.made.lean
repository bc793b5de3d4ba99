/-! ===== made ===== -/
/-- a set of cells, no sea -/
noncomputable def stV (V : Nat → Int) (x : Nat) : Prop := ∀ j : Nat, bt x j = 1 → (j : Int) < szV V ∧ V (40 + j) ≠ 126
/-- all of the set is within k strides -/
noncomputable def gd (V : Nat → Int) (x f k : Nat) (L : Int) : Prop := ∀ j : Nat, bt x j = 1 → wV V L f k j
noncomputable def gC (V : Nat → Int) (x f k : Nat) : Nat → Int
  | 0 => 0
  | n + 1 => gC V x f k n + @ite Int (gd V x f k ((n + 1 : Nat) : Int)) (Classical.propDecidable _) 1 0
theorem gC_y {V : Nat → Int} {x f k : Nat} {L : Int} (h1 : 1 ≤ L) (h : gd V x f k L) : gC V x f k L.toNat = gC V x f k (L - 1).toNat + 1 := by
  rw [show L.toNat = (L - 1).toNat + 1 by omega, gC, if_pos (by rw [show (((L - 1).toNat + 1 : Nat) : Int) = L by omega]; exact h)]
theorem gC_n {V : Nat → Int} {x f k : Nat} {L : Int} (h1 : 1 ≤ L) (h : ¬ gd V x f k L) : gC V x f k L.toNat = gC V x f k (L - 1).toNat := by
  rw [show L.toNat = (L - 1).toNat + 1 by omega, gC, if_neg (by rw [show (((L - 1).toNat + 1 : Nat) : Int) = L by omega]; exact h)]
  omega
theorem gC_b (V : Nat → Int) (x f k : Nat) : ∀ n, 0 ≤ gC V x f k n ∧ gC V x f k n ≤ n
  | 0 => by unfold gC; decide
  | n + 1 => by
    have := gC_b V x f k n
    by_cases q : gd V x f k ((n + 1 : Nat) : Int)
    · rw [gC, if_pos q]; omega
    · rw [gC, if_neg q]; omega
noncomputable def gL (V : Nat → Int) (x f k : Nat) (n l : Int) : Prop := (l = -6 ∧ gC V x f k n.toNat = 0 ∧ ∀ L : Int, 1 ≤ L → L ≤ n → ¬ gd V x f k L) ∨ ((1 ≤ l ∧ l ≤ n) ∧ 1 ≤ gC V x f k n.toNat ∧ gd V x f k l ∧ ∀ L : Int, 1 ≤ L → L < l → ¬ gd V x f k L)
theorem gL.uniq {V : Nat → Int} {x f k : Nat} {n a b : Int} (h : gL V x f k n a) (g : gL V x f k n b) : b = a := by
  rcases h with ⟨h1, h2, h3⟩ | ⟨h1, h2, h3, h4⟩ <;> rcases g with ⟨g1, g2, g3⟩ | ⟨g1, g2, g3, g4⟩
  · omega
  · omega
  · omega
  · rcases Int.lt_trichotomy a b with q | q | q
    · exact absurd h3 (g4 a h1.1 q)
    · exact q.symm
    · exact absurd g3 (h4 b g1.1 q)
theorem gL.st {V : Nat → Int} {x f k : Nat} {L l l' : Int} (h : gL V x f k (L - 1) l) (h1 : 1 ≤ L) (e : (gd V x f k L ∧ ((l = -6 ∧ l' = L) ∨ (l ≠ -6 ∧ l' = l))) ∨ (¬ gd V x f k L ∧ l' = l)) : gL V x f k L l' := by
  rcases e with ⟨e1, e2⟩ | ⟨e1, e2⟩
  · have c := gC_y h1 e1
    have b := gC_b V x f k (L - 1).toNat
    rcases h with ⟨a1, a2, a3⟩ | ⟨a1, a2, a3, a4⟩
    · have e3 : l' = L := by omega
      rw [e3]
      exact Or.inr ⟨by omega, by omega, e1, fun M m1 m2 => a3 M m1 (by omega)⟩
    · have e3 : l' = l := by omega
      rw [e3]
      exact Or.inr ⟨by omega, by omega, a3, a4⟩
  · have c := gC_n h1 e1
    rw [e2]
    rcases h with ⟨a1, a2, a3⟩ | ⟨a1, a2, a3, a4⟩
    · refine Or.inl ⟨a1, by omega, fun M m1 m2 => ?_⟩
      by_cases q : M = L
      · rw [q]; exact e1
      · exact a3 M m1 (by omega)
    · exact Or.inr ⟨by omega, by omega, a3, a4⟩
noncomputable def madP (V : Nat → Int) (x : Nat) (k wh z : Int) : Prop := (z = -2 ∧ (¬ stV V x ∨ (k < 0 ∨ 35 < k) ∨ wh < 0 ∨ 1 < wh)) ∨ ((stV V x ∧ (0 ≤ k ∧ k ≤ 35) ∧ 0 ≤ wh ∧ wh ≤ 1) ∧ ((wh = 0 ∧ z = gC V x (V 2).toNat k.toNat 50) ∨ (wh = 1 ∧ gL V x (V 2).toNat k.toNat 50 z)))
theorem U_made {V : Nat → Int} {x : Nat} {k wh z z2 : Int} (h : madP V x k wh z) (g : madP V x k wh z2) : z2 = z := by
  rcases h with ⟨h1, h2⟩ | ⟨h1, h2⟩ <;> rcases g with ⟨g1, g2⟩ | ⟨g1, g2⟩
  · omega
  · rcases h2 with q | q
    · exact absurd g1.1 q
    · omega
  · rcases g2 with q | q
    · exact absurd h1.1 q
    · omega
  · rcases h2 with ⟨a, b⟩ | ⟨a, b⟩ <;> rcases g2 with ⟨c, d⟩ | ⟨c, d⟩
    · omega
    · omega
    · omega
    · exact b.uniq d
theorem sub_iff {x d m y : Int64} (hm : m.toInt = -1) (e : y = x &&& (d ^^^ m)) : y.toInt = 0 ↔ ∀ j, bt (n64 x) j = 1 → bt (n64 d) j = 1 := by
  rw [n64_z, e, n64_and]
  constructor
  · intro h j hj
    have h64 : j < 64 := by
      apply Classical.byContradiction
      intro q
      rw [bt_hi (n64_lt x) (by omega)] at hj
      omega
    have b := bt_and (n64 x) (n64 (d ^^^ m)) j
    rw [h, bt_z, bt_not hm h64, hj] at b
    have := bt_le (n64 d) j
    omega
  · intro h
    apply Classical.byContradiction
    intro q
    obtain ⟨j, hj⟩ := bt_some q
    rw [bt_and] at hj
    have l1 := bt_le (n64 x) j
    have l2 := bt_le (n64 (d ^^^ m)) j
    have h64 : j < 64 := by
      apply Classical.byContradiction
      intro q
      rw [bt_hi (n64_lt x) (by omega)] at hj
      omega
    have a := h j (by omega)
    rw [bt_not hm h64] at hj l2
    omega
theorem e_mdL {d : Nat} {w00 : am_W} {V : Nat → Int} (R00 : RCs w00 3 V) (x : Int64) (k wh : Int32) (hk : 0 ≤ k.toInt ∧ k.toInt ≤ 35) (hwh : 0 ≤ wh.toInt ∧ wh.toInt ≤ 1) (sx0 : stV V (n64 x)) (hh : 0 ≤ V 2 ∧ V 2 < szV V) (I0 : ab_inv ab_TT ab_sets w00) : ∀ (m : Nat) (w : am_W) (n l L : Int32), (51 - L.toInt).toNat < m → 1 ≤ L.toInt → L.toInt ≤ 51 → ab_J ab_TT ab_sets ab_WR w00 w → only [19] w00 w → n.toInt = gC V (n64 x) (V 2).toNat k.toInt.toNat (L.toInt - 1).toNat → gL V (n64 x) (V 2).toNat k.toInt.toNat (L.toInt - 1) l.toInt → aw none (d + 4) 82 (fun r w1 => ab_J ab_TT ab_sets ab_WR w00 w1 ∧ ∃ z : Int32, r = some (.int z) ∧ madP V (n64 x) k.toInt wh.toInt z.toInt) (51, [some (.ref 0), some (.long x), none, some (.int k), some (.int wh), some (.int n), some (.int l), some (.int L)], []) w := by
  intro m
  induction m with
  | zero => intro w n l L p; omega
  | succ m ih =>
    intro w n l L p1 p2 p3 J O C M
    have R := R00.of O (by decide)
    have r2 := R.f2
    have gb := gC_b V (n64 x) (V 2).toNat k.toInt.toNat (L.toInt - 1).toNat
    refine aw_step (f1 := (53, [some (.ref 0), some (.long x), none, some (.int k), some (.int wh), some (.int n), some (.int l), some (.int L)], [(.int L)])) (w1 := w) rfl rfl ?_
    refine s_i (pc1 := 55) (ls1 := [some (.ref 0), some (.long x), none, some (.int k), some (.int wh), some (.int n), some (.int l), some (.int L)]) (st1 := [(.int L)]) rfl rfl fun x1 e2 => ?_
    have e2t : x1.toInt = 50 := by rw [e2]; rfl
    refine s_ic 115 58 rfl rfl rfl (fun (h3 : x1.toInt < L.toInt) => ?_) (fun (h3 : ¬ (x1.toInt < L.toInt)) => ?_)
    · --
      refine aw_step (f1 := (117, [some (.ref 0), some (.long x), none, some (.int k), some (.int wh), some (.int n), some (.int l), some (.int L)], [(.int wh)])) (w1 := w) rfl rfl ?_
      refine s_if 125 120 rfl rfl rfl (fun (h4 : ¬ wh.toInt = 0) => ?_) (fun (h4 : ¬ (¬ wh.toInt = 0)) => ?_)
      · --
        refine aw_step (f1 := (127, [some (.ref 0), some (.long x), none, some (.int k), some (.int wh), some (.int n), some (.int l), some (.int L)], [(.int l)])) (w1 := w) rfl rfl ?_
        refine aw_ret (v := some (.int l)) rfl rfl ?_
        rw [show (L.toInt - 1).toNat = 50 by omega] at C
        rw [show L.toInt - 1 = 50 by omega] at M
        first
          | exact ⟨J, l, rfl, Or.inr ⟨⟨sx0, ⟨by omega, by omega⟩, by omega, by omega⟩, Or.inl ⟨by omega, C⟩⟩⟩
          | exact ⟨J, l, rfl, Or.inr ⟨⟨sx0, ⟨by omega, by omega⟩, by omega, by omega⟩, Or.inr ⟨by omega, M⟩⟩⟩
      · --
        refine aw_step (f1 := (122, [some (.ref 0), some (.long x), none, some (.int k), some (.int wh), some (.int n), some (.int l), some (.int L)], [(.int n)])) (w1 := w) rfl rfl ?_
        refine aw_step (f1 := (127, [some (.ref 0), some (.long x), none, some (.int k), some (.int wh), some (.int n), some (.int l), some (.int L)], [(.int n)])) (w1 := w) rfl rfl ?_
        refine aw_ret (v := some (.int n)) rfl rfl ?_
        rw [show (L.toInt - 1).toNat = 50 by omega] at C
        rw [show L.toInt - 1 = 50 by omega] at M
        first
          | exact ⟨J, n, rfl, Or.inr ⟨⟨sx0, ⟨by omega, by omega⟩, by omega, by omega⟩, Or.inl ⟨by omega, C⟩⟩⟩
          | exact ⟨J, n, rfl, Or.inr ⟨⟨sx0, ⟨by omega, by omega⟩, by omega, by omega⟩, Or.inr ⟨by omega, M⟩⟩⟩
    · --
      refine aw_step (f1 := (59, [some (.ref 0), some (.long x), none, some (.int k), some (.int wh), some (.int n), some (.int l), some (.int L)], [(.long x)])) (w1 := w) rfl rfl ?_
      refine aw_step (f1 := (60, [some (.ref 0), some (.long x), none, some (.int k), some (.int wh), some (.int n), some (.int l), some (.int L)], [(.ref 0), (.long x)])) (w1 := w) rfl rfl ?_
      refine s_gr 18 J 63 rfl rfl rfl rfl rfl rfl ?_
      refine aw_step (f1 := (64, [some (.ref 0), some (.long x), none, some (.int k), some (.int wh), some (.int n), some (.int l), some (.int L)], [(.ref 0), (.ref 18), (.long x)])) (w1 := w) rfl rfl ?_
      refine s_gr 3 J 67 rfl rfl rfl rfl rfl rfl ?_
      refine aw_step (f1 := (69, [some (.ref 0), some (.long x), none, some (.int k), some (.int wh), some (.int n), some (.int l), some (.int L)], [(.int L), (.ref 3), (.ref 18), (.long x)])) (w1 := w) rfl rfl ?_
      refine aw_step (f1 := (70, [some (.ref 0), some (.long x), none, some (.int k), some (.int wh), some (.int n), some (.int l), some (.int L)], [(.ref 0), (.int L), (.ref 3), (.ref 18), (.long x)])) (w1 := w) rfl rfl ?_
      refine s_gr 3 J 73 rfl rfl rfl rfl rfl rfl ?_
      refine s_gi J 76 rfl rfl rfl rfl rfl rfl fun x5 x5a x5b x5f => ?_
      have x5v : x5.toInt = fI w 3 2 := by rw [← fI_of x5f]
      refine aw_step (f1 := (77, [some (.ref 0), some (.long x), none, some (.int k), some (.int wh), some (.int n), some (.int l), some (.int L)], [(.int k), (.int x5), (.int L), (.ref 3), (.ref 18), (.long x)])) (w1 := w) rfl rfl ?_
      refine s_cv (z := 23) (p := 18) (as := [(.ref 3), (.int L), (.int x5), (.int k)]) (st1 := [(.long x)]) J 80 rfl rfl rfl rfl rfl rfl rfl rfl (Nat.le_of_ble_eq_true rfl) (Nat.le_of_ble_eq_true rfl) (e_nearby R L x5 k ⟨by omega, by omega⟩ ⟨by omega, by omega⟩ ⟨by omega, by omega⟩ J.1) ?_
      rintro _ w7 ⟨J8c, w7o, y6, rfl, y6t, w7p⟩
      have J8 := J.trans J8c
      refine ⟨am_len2 J J8c, ?_⟩
      show aw none _ 82 _ (80, [some (.ref 0), some (.long x), none, some (.int k), some (.int wh), some (.int n), some (.int l), some (.int L)], [(.long y6), (.long x)]) w7
      rw [show x5.toInt = V 2 by omega] at y6t
      refine s_l (pc1 := 83) (ls1 := [some (.ref 0), some (.long x), none, some (.int k), some (.int wh), some (.int n), some (.int l), some (.int L)]) (st1 := [(.long y6), (.long x)]) rfl rfl fun y9 e10 => ?_
      have e10t : y9.toInt = -1 := by rw [e10]; rfl
      --
      refine s_l (pc1 := 84) (ls1 := [some (.ref 0), some (.long x), none, some (.int k), some (.int wh), some (.int n), some (.int l), some (.int L)]) (st1 := [(.long x)]) rfl rfl fun y11 e12 => ?_
      have e12 : y11 = y6 ^^^ y9 := e12
      --
      refine s_l (pc1 := 85) (ls1 := [some (.ref 0), some (.long x), none, some (.int k), some (.int wh), some (.int n), some (.int l), some (.int L)]) (st1 := []) rfl rfl fun y13 e14 => ?_
      have e14 : y13 = x &&& y11 := e14
      have gi : y13.toInt = 0 ↔ gd V (n64 x) (V 2).toNat k.toInt.toNat L.toInt := (sub_iff (x := x) (d := y6) (m := y9) e10t (by rw [e14, e12])).trans ⟨fun h j hj => (y6t j).mp (h j hj), fun h j hj => (y6t j).mpr (h j hj)⟩
      refine s_l (pc1 := 86) (ls1 := [some (.ref 0), some (.long x), none, some (.int k), some (.int wh), some (.int n), some (.int l), some (.int L)]) (st1 := [(.long y13)]) rfl rfl fun y15 e16 => ?_
      have e16t : y15.toInt = 0 := by rw [e16]; rfl
      refine s_lc 109 90 87 rfl rfl rfl rfl rfl (fun (h17 : ¬ y13.toInt = y15.toInt) => ?_) (fun (h17 : ¬ (¬ y13.toInt = y15.toInt)) => ?_)
      · --
        refine aw_step (f1 := (112, [some (.ref 0), some (.long x), none, some (.int k), some (.int wh), some (.int n), some (.int l), some (.int (L + Int32.ofInt 1))], [])) (w1 := w7) rfl rfl ?_
        obtain ⟨x18, x18e⟩ : ∃ z, z = (L + Int32.ofInt 1) := ⟨_, rfl⟩
        have x18t : x18.toInt = L.toInt + (1) := by rw [x18e]; exact n_add (y := Int32.ofInt (1)) (by show _ ≤ _ + (1 : Int); omega) (by show _ + (1 : Int) ≤ _; omega)
        rw [← x18e]
        refine aw_step (f1 := (51, [some (.ref 0), some (.long x), none, some (.int k), some (.int wh), some (.int n), some (.int l), some (.int x18)], [])) (w1 := w7) rfl rfl ?_
        have gn : ¬ gd V (n64 x) (V 2).toNat k.toInt.toNat L.toInt := fun q => by have := gi.mpr q; omega
        refine ih w7 n l x18 (by omega) (by omega) (by omega) J8 (O.trans w7o) ?_ ?_
        · rw [show x18.toInt - 1 = L.toInt by omega, gC_n (by omega) gn]; exact C
        · rw [show x18.toInt - 1 = L.toInt by omega]; exact M.st (by omega) (Or.inr ⟨gn, rfl⟩)
      · --
        refine aw_step (f1 := (93, [some (.ref 0), some (.long x), none, some (.int k), some (.int wh), some (.int (n + Int32.ofInt 1)), some (.int l), some (.int L)], [])) (w1 := w7) rfl rfl ?_
        obtain ⟨x19, x19e⟩ : ∃ z, z = (n + Int32.ofInt 1) := ⟨_, rfl⟩
        have x19t : x19.toInt = n.toInt + (1) := by rw [x19e]; exact n_add (y := Int32.ofInt (1)) (by show _ ≤ _ + (1 : Int); omega) (by show _ + (1 : Int) ≤ _; omega)
        rw [← x19e]
        refine aw_step (f1 := (95, [some (.ref 0), some (.long x), none, some (.int k), some (.int wh), some (.int x19), some (.int l), some (.int L)], [(.int l)])) (w1 := w7) rfl rfl ?_
        refine s_i (pc1 := 97) (ls1 := [some (.ref 0), some (.long x), none, some (.int k), some (.int wh), some (.int x19), some (.int l), some (.int L)]) (st1 := [(.int l)]) rfl rfl fun x20 e21 => ?_
        have e21t : x20.toInt = -6 := by rw [e21]; rfl
        refine s_ic 105 100 rfl rfl rfl (fun (h22 : ¬ l.toInt = x20.toInt) => ?_) (fun (h22 : ¬ (¬ l.toInt = x20.toInt)) => ?_)
        · --
          refine aw_step (f1 := (107, [some (.ref 0), some (.long x), none, some (.int k), some (.int wh), some (.int x19), some (.int l), some (.int L)], [(.int l)])) (w1 := w7) rfl rfl ?_
          refine aw_step (f1 := (109, [some (.ref 0), some (.long x), none, some (.int k), some (.int wh), some (.int x19), some (.int l), some (.int L)], [])) (w1 := w7) rfl rfl ?_
          refine aw_step (f1 := (112, [some (.ref 0), some (.long x), none, some (.int k), some (.int wh), some (.int x19), some (.int l), some (.int (L + Int32.ofInt 1))], [])) (w1 := w7) rfl rfl ?_
          obtain ⟨x23, x23e⟩ : ∃ z, z = (L + Int32.ofInt 1) := ⟨_, rfl⟩
          have x23t : x23.toInt = L.toInt + (1) := by rw [x23e]; exact n_add (y := Int32.ofInt (1)) (by show _ ≤ _ + (1 : Int); omega) (by show _ + (1 : Int) ≤ _; omega)
          rw [← x23e]
          refine aw_step (f1 := (51, [some (.ref 0), some (.long x), none, some (.int k), some (.int wh), some (.int x19), some (.int l), some (.int x23)], [])) (w1 := w7) rfl rfl ?_
          have gy : gd V (n64 x) (V 2).toNat k.toInt.toNat L.toInt := gi.mp (by omega)
          refine ih w7 x19 l x23 (by omega) (by omega) (by omega) J8 (O.trans w7o) ?_ ?_
          · rw [show x23.toInt - 1 = L.toInt by omega, gC_y (by omega) gy]; omega
          · rw [show x23.toInt - 1 = L.toInt by omega]; exact M.st (by omega) (Or.inl ⟨gy, by omega⟩)
        · --
          refine aw_step (f1 := (102, [some (.ref 0), some (.long x), none, some (.int k), some (.int wh), some (.int x19), some (.int l), some (.int L)], [(.int L)])) (w1 := w7) rfl rfl ?_
          refine aw_step (f1 := (107, [some (.ref 0), some (.long x), none, some (.int k), some (.int wh), some (.int x19), some (.int l), some (.int L)], [(.int L)])) (w1 := w7) rfl rfl ?_
          refine aw_step (f1 := (109, [some (.ref 0), some (.long x), none, some (.int k), some (.int wh), some (.int x19), some (.int L), some (.int L)], [])) (w1 := w7) rfl rfl ?_
          refine aw_step (f1 := (112, [some (.ref 0), some (.long x), none, some (.int k), some (.int wh), some (.int x19), some (.int L), some (.int (L + Int32.ofInt 1))], [])) (w1 := w7) rfl rfl ?_
          obtain ⟨x24, x24e⟩ : ∃ z, z = (L + Int32.ofInt 1) := ⟨_, rfl⟩
          have x24t : x24.toInt = L.toInt + (1) := by rw [x24e]; exact n_add (y := Int32.ofInt (1)) (by show _ ≤ _ + (1 : Int); omega) (by show _ + (1 : Int) ≤ _; omega)
          rw [← x24e]
          refine aw_step (f1 := (51, [some (.ref 0), some (.long x), none, some (.int k), some (.int wh), some (.int x19), some (.int L), some (.int x24)], [])) (w1 := w7) rfl rfl ?_
          have gy : gd V (n64 x) (V 2).toNat k.toInt.toNat L.toInt := gi.mp (by omega)
          refine ih w7 x19 L x24 (by omega) (by omega) (by omega) J8 (O.trans w7o) ?_ ?_
          · rw [show x24.toInt - 1 = L.toInt by omega, gC_y (by omega) gy]; omega
          · rw [show x24.toInt - 1 = L.toInt by omega]; exact M.st (by omega) (Or.inl ⟨gy, by omega⟩)
theorem e_made {d : Nat} {w : am_W} {V : Nat → Int} (R : RCs w 3 V) (hh : 0 ≤ V 2 ∧ V 2 < szV V) (x : Int64) (k wh : Int32) (I : ab_inv ab_TT ab_sets w) : aw none (d + 4) 82 (fun r w1 => ab_J ab_TT ab_sets ab_WR w w1 ∧ ∃ z : Int32, r = some (.int z) ∧ madP V (n64 x) k.toInt wh.toInt z.toInt) (0, am_entry 82 [.ref 0, .long x, .int k, .int wh], []) w := by
  have J : ab_J ab_TT ab_sets ab_WR w w := ⟨I, ab_fr.rf⟩
  show aw none (d + 4) 82 _ (0, [some (.ref 0), some (.long x), none, some (.int k), some (.int wh), none, none, none], []) w
  refine aw_step (f1 := (1, [some (.ref 0), some (.long x), none, some (.int k), some (.int wh), none, none, none], [(.long x)])) (w1 := w) rfl rfl ?_
  refine aw_step (f1 := (2, [some (.ref 0), some (.long x), none, some (.int k), some (.int wh), none, none, none], [(.ref 0), (.long x)])) (w1 := w) rfl rfl ?_
  refine s_gr 3 J 5 rfl rfl rfl rfl rfl rfl ?_
  refine s_gl J 8 rfl rfl rfl rfl rfl rfl fun y1 y1a y1b y1f => ?_
  --
  refine s_l (pc1 := 11) (ls1 := [some (.ref 0), some (.long x), none, some (.int k), some (.int wh), none, none, none]) (st1 := [(.long y1), (.long x)]) rfl rfl fun y2 e3 => ?_
  have e3t : y2.toInt = -1 := by rw [e3]; rfl
  --
  refine s_l (pc1 := 12) (ls1 := [some (.ref 0), some (.long x), none, some (.int k), some (.int wh), none, none, none]) (st1 := [(.long x)]) rfl rfl fun y4 e5 => ?_
  have e5 : y4 = y1 ^^^ y2 := e5
  --
  refine s_l (pc1 := 13) (ls1 := [some (.ref 0), some (.long x), none, some (.int k), some (.int wh), none, none, none]) (st1 := []) rfl rfl fun y6 e7 => ?_
  have e7 : y6 = x &&& y4 := e7
  have hd := R.2.2
  rw [fL_of y1f] at hd
  have si : y6.toInt = 0 ↔ stV V (n64 x) := (sub_iff (x := x) (d := y1) (m := y2) e3t (by rw [e7, e5])).trans ⟨fun h j hj => (hd j).mp (h j hj), fun h j hj => (hd j).mpr (h j hj)⟩
  refine s_l (pc1 := 14) (ls1 := [some (.ref 0), some (.long x), none, some (.int k), some (.int wh), none, none, none]) (st1 := [(.long y6)]) rfl rfl fun y8 e9 => ?_
  have e9t : y8.toInt = 0 := by rw [e9]; rfl
  refine s_lc 38 18 15 rfl rfl rfl rfl rfl (fun (h10 : ¬ y6.toInt = y8.toInt) => ?_) (fun (h10 : ¬ (¬ y6.toInt = y8.toInt)) => ?_)
  · --
    refine s_i (pc1 := 40) (ls1 := [some (.ref 0), some (.long x), none, some (.int k), some (.int wh), none, none, none]) (st1 := []) rfl rfl fun x11 e12 => ?_
    have e12t : x11.toInt = -2 := by rw [e12]; rfl
    refine aw_ret (v := some (.int x11)) rfl rfl ?_
    first
      | exact ⟨J, x11, rfl, Or.inl ⟨by omega, Or.inr (by omega)⟩⟩
      | exact ⟨J, x11, rfl, Or.inl ⟨by omega, Or.inl (fun q => by have := si.mpr q; omega)⟩⟩
  · --
    refine aw_step (f1 := (19, [some (.ref 0), some (.long x), none, some (.int k), some (.int wh), none, none, none], [(.int k)])) (w1 := w) rfl rfl ?_
    refine s_i (pc1 := 20) (ls1 := [some (.ref 0), some (.long x), none, some (.int k), some (.int wh), none, none, none]) (st1 := [(.int k)]) rfl rfl fun x13 e14 => ?_
    have e14t : x13.toInt = 0 := by rw [e14]; rfl
    refine s_i (pc1 := 22) (ls1 := [some (.ref 0), some (.long x), none, some (.int k), some (.int wh), none, none, none]) (st1 := [(.int x13), (.int k)]) rfl rfl fun x15 e16 => ?_
    have e16t : x15.toInt = 35 := by rw [e16]; rfl
    refine s_cs (z := 102) (as := [(.int k), (.int x13), (.int x15)]) (st1 := []) 25 rfl rfl rfl rfl rfl rfl (Nat.le_of_ble_eq_true rfl) (Nat.le_of_ble_eq_true rfl) (Nat.le_of_ble_eq_true rfl) (q_within k x13 x15) ?_
    rintro _ _ ⟨rfl, x17, rfl, x17t⟩
    refine ⟨rfl, ?_⟩
    show aw none _ 82 _ (25, [some (.ref 0), some (.long x), none, some (.int k), some (.int wh), none, none, none], [(.int x17)]) w
    refine s_if 38 28 rfl rfl rfl (fun (h18 : x17.toInt = 0) => ?_) (fun (h18 : ¬ (x17.toInt = 0)) => ?_)
    · --
      refine s_i (pc1 := 40) (ls1 := [some (.ref 0), some (.long x), none, some (.int k), some (.int wh), none, none, none]) (st1 := []) rfl rfl fun x19 e20 => ?_
      have e20t : x19.toInt = -2 := by rw [e20]; rfl
      refine aw_ret (v := some (.int x19)) rfl rfl ?_
      first
        | exact ⟨J, x19, rfl, Or.inl ⟨by omega, Or.inr (by omega)⟩⟩
        | exact ⟨J, x19, rfl, Or.inl ⟨by omega, Or.inl (fun q => by have := si.mpr q; omega)⟩⟩
    · --
      refine aw_step (f1 := (30, [some (.ref 0), some (.long x), none, some (.int k), some (.int wh), none, none, none], [(.int wh)])) (w1 := w) rfl rfl ?_
      refine s_i (pc1 := 31) (ls1 := [some (.ref 0), some (.long x), none, some (.int k), some (.int wh), none, none, none]) (st1 := [(.int wh)]) rfl rfl fun x21 e22 => ?_
      have e22t : x21.toInt = 0 := by rw [e22]; rfl
      refine s_i (pc1 := 32) (ls1 := [some (.ref 0), some (.long x), none, some (.int k), some (.int wh), none, none, none]) (st1 := [(.int x21), (.int wh)]) rfl rfl fun x23 e24 => ?_
      have e24t : x23.toInt = 1 := by rw [e24]; rfl
      refine s_cs (z := 102) (as := [(.int wh), (.int x21), (.int x23)]) (st1 := []) 35 rfl rfl rfl rfl rfl rfl (Nat.le_of_ble_eq_true rfl) (Nat.le_of_ble_eq_true rfl) (Nat.le_of_ble_eq_true rfl) (q_within wh x21 x23) ?_
      rintro _ _ ⟨rfl, x25, rfl, x25t⟩
      refine ⟨rfl, ?_⟩
      show aw none _ 82 _ (35, [some (.ref 0), some (.long x), none, some (.int k), some (.int wh), none, none, none], [(.int x25)]) w
      refine s_if 41 38 rfl rfl rfl (fun (h26 : ¬ x25.toInt = 0) => ?_) (fun (h26 : ¬ (¬ x25.toInt = 0)) => ?_)
      · --
        refine s_i (pc1 := 42) (ls1 := [some (.ref 0), some (.long x), none, some (.int k), some (.int wh), none, none, none]) (st1 := []) rfl rfl fun x27 e28 => ?_
        have e28t : x27.toInt = 0 := by rw [e28]; rfl
        refine aw_step (f1 := (44, [some (.ref 0), some (.long x), none, some (.int k), some (.int wh), some (.int x27), none, none], [])) (w1 := w) rfl rfl ?_
        refine s_i (pc1 := 46) (ls1 := [some (.ref 0), some (.long x), none, some (.int k), some (.int wh), some (.int x27), none, none]) (st1 := []) rfl rfl fun x29 e30 => ?_
        have e30t : x29.toInt = -6 := by rw [e30]; rfl
        refine aw_step (f1 := (48, [some (.ref 0), some (.long x), none, some (.int k), some (.int wh), some (.int x27), some (.int x29), none], [])) (w1 := w) rfl rfl ?_
        refine s_i (pc1 := 49) (ls1 := [some (.ref 0), some (.long x), none, some (.int k), some (.int wh), some (.int x27), some (.int x29), none]) (st1 := []) rfl rfl fun x31 e32 => ?_
        have e32t : x31.toInt = 1 := by rw [e32]; rfl
        refine aw_step (f1 := (51, [some (.ref 0), some (.long x), none, some (.int k), some (.int wh), some (.int x27), some (.int x29), some (.int x31)], [])) (w1 := w) rfl rfl ?_
        exact e_mdL R x k wh ⟨by omega, by omega⟩ ⟨by omega, by omega⟩ (si.mp (by omega)) hh I 51 w x27 x29 x31 (by omega) (by omega) (by omega) J only.rf (by rw [show (x31.toInt - 1).toNat = 0 by omega]; show _ = (0 : Int); omega) (by rw [show x31.toInt - 1 = 0 by omega]; exact Or.inl ⟨by omega, rfl, fun M a b => by omega⟩)
      · --
        refine s_i (pc1 := 40) (ls1 := [some (.ref 0), some (.long x), none, some (.int k), some (.int wh), none, none, none]) (st1 := []) rfl rfl fun x33 e34 => ?_
        have e34t : x33.toInt = -2 := by rw [e34]; rfl
        refine aw_ret (v := some (.int x33)) rfl rfl ?_
        first
          | exact ⟨J, x33, rfl, Or.inl ⟨by omega, Or.inr (by omega)⟩⟩
          | exact ⟨J, x33, rfl, Or.inl ⟨by omega, Or.inl (fun q => by have := si.mpr q; omega)⟩⟩
theorem ldM_V {w : am_W} {V : Nat → Int} (R : RMs w V) (hz : szV V ≤ 36) (j : Nat) : ldM w j ↔ (j : Int) < szV V ∧ V (40 + j) ≠ 126 := by
  unfold ldM
  rw [R.sz]
  constructor
  · intro q
    have q3 := q.2.2
    rw [R.rc (i := ((j : Nat) : Int).toNat) (by omega), show ((j : Nat) : Int).toNat = j by omega] at q3
    exact ⟨q.2.1, q3⟩
  · intro q
    refine ⟨by omega, q.1, ?_⟩
    rw [R.rc (i := ((j : Nat) : Int).toNat) (by omega), show ((j : Nat) : Int).toNat = j by omega]
    exact q.2
theorem st_pos {V : Nat → Int} {x : Int64} (h : stV V (n64 x)) (hz : szV V ≤ 36) : 0 ≤ x.toInt := by
  have l : n64 x < 2 ^ 36 := bt_lt fun j hj => by have := (h j hj).1; omega
  rw [l_36 l]
  omega
theorem f_isSet {d : Nat} {w : am_W} {V : Nat → Int} (R : RMs w V) (x : Int64) (I : ab_inv ab_TT ab_sets w) : aw none (d + 4) 152 (fun r w1 => w = w1 ∧ ∃ z : Int32, r = some (.int z) ∧ ((z.toInt = 1 ∧ stV V (n64 x)) ∨ (z.toInt = 0 ∧ ¬ stV V (n64 x)))) (0, am_entry 152 [.ref 65, .long x], []) w := by
  have J : ab_J ab_TT ab_sets ab_WR w w := ⟨I, ab_fr.rf⟩
  have szm := szM_in I
  have hsz := R.sz
  show aw none (d + 4) 152 _ (0, [some (.ref 65), some (.long x), none], []) w
  refine aw_step (f1 := (1, [some (.ref 65), some (.long x), none], [(.long x)])) (w1 := w) rfl rfl ?_
  refine s_l (pc1 := 2) (ls1 := [some (.ref 65), some (.long x), none]) (st1 := [(.long x)]) rfl rfl fun y1 e2 => ?_
  have e2t : y1.toInt = 0 := by rw [e2]; rfl
  refine s_lc 25 6 3 rfl rfl rfl rfl rfl (fun (h3 : x.toInt < y1.toInt) => ?_) (fun (h3 : ¬ (x.toInt < y1.toInt)) => ?_)
  · --
    refine s_i (pc1 := 26) (ls1 := [some (.ref 65), some (.long x), none]) (st1 := []) rfl rfl fun x4 e5 => ?_
    have e5t : x4.toInt = 0 := by rw [e5]; rfl
    refine aw_ret (v := some (.int x4)) rfl (am_retz (by omega)) ?_
    first
      | exact ⟨rfl, x4, rfl, Or.inl ⟨by omega, si.mp (by omega)⟩⟩
      | exact ⟨rfl, x4, rfl, Or.inr ⟨by omega, fun q => by have := si.mpr q; omega⟩⟩
      | exact ⟨rfl, x4, rfl, Or.inr ⟨by omega, fun q => by have := st_pos q (by omega); omega⟩⟩
  · --
    refine aw_step (f1 := (7, [some (.ref 65), some (.long x), none], [(.long x)])) (w1 := w) rfl rfl ?_
    refine aw_step (f1 := (8, [some (.ref 65), some (.long x), none], [(.ref 65), (.long x)])) (w1 := w) rfl rfl ?_
    refine s_cv (z := 117) (p := 65) (as := []) (st1 := [(.long x)]) J 11 rfl rfl rfl rfl rfl rfl rfl rfl (Nat.le_of_ble_eq_true rfl) (Nat.le_of_ble_eq_true rfl) (f_allLand J.1) ?_
    rintro _ _ ⟨rfl, y6, rfl, y6t⟩
    refine ⟨rfl, ?_⟩
    show aw none _ 152 _ (11, [some (.ref 65), some (.long x), none], [(.long y6), (.long x)]) w
    --
    refine s_l (pc1 := 14) (ls1 := [some (.ref 65), some (.long x), none]) (st1 := [(.long y6), (.long x)]) rfl rfl fun y7 e8 => ?_
    have e8t : y7.toInt = -1 := by rw [e8]; rfl
    --
    refine s_l (pc1 := 15) (ls1 := [some (.ref 65), some (.long x), none]) (st1 := [(.long x)]) rfl rfl fun y9 e10 => ?_
    have e10 : y9 = y6 ^^^ y7 := e10
    --
    refine s_l (pc1 := 16) (ls1 := [some (.ref 65), some (.long x), none]) (st1 := []) rfl rfl fun y11 e12 => ?_
    have e12 : y11 = x &&& y9 := e12
    have si : y11.toInt = 0 ↔ stV V (n64 x) := (sub_iff (x := x) (d := y6) (m := y7) e8t (by rw [e12, e10])).trans ⟨fun h j hj => (ldM_V R (by omega) j).mp ((y6t j).mp (h j hj)), fun h j hj => (y6t j).mpr ((ldM_V R (by omega) j).mpr (h j hj))⟩
    refine s_l (pc1 := 17) (ls1 := [some (.ref 65), some (.long x), none]) (st1 := [(.long y11)]) rfl rfl fun y13 e14 => ?_
    have e14t : y13.toInt = 0 := by rw [e14]; rfl
    refine s_lc 25 21 18 rfl rfl rfl rfl rfl (fun (h15 : ¬ y11.toInt = y13.toInt) => ?_) (fun (h15 : ¬ (¬ y11.toInt = y13.toInt)) => ?_)
    · --
      refine s_i (pc1 := 26) (ls1 := [some (.ref 65), some (.long x), none]) (st1 := []) rfl rfl fun x16 e17 => ?_
      have e17t : x16.toInt = 0 := by rw [e17]; rfl
      refine aw_ret (v := some (.int x16)) rfl (am_retz (by omega)) ?_
      first
        | exact ⟨rfl, x16, rfl, Or.inl ⟨by omega, si.mp (by omega)⟩⟩
        | exact ⟨rfl, x16, rfl, Or.inr ⟨by omega, fun q => by have := si.mpr q; omega⟩⟩
        | exact ⟨rfl, x16, rfl, Or.inr ⟨by omega, fun q => by have := st_pos q (by omega); omega⟩⟩
    · --
      refine s_i (pc1 := 22) (ls1 := [some (.ref 65), some (.long x), none]) (st1 := []) rfl rfl fun x18 e19 => ?_
      have e19t : x18.toInt = 1 := by rw [e19]; rfl
      refine aw_step (f1 := (26, [some (.ref 65), some (.long x), none], [(.int x18)])) (w1 := w) rfl rfl ?_
      refine aw_ret (v := some (.int x18)) rfl (am_retz (by omega)) ?_
      first
        | exact ⟨rfl, x18, rfl, Or.inl ⟨by omega, si.mp (by omega)⟩⟩
        | exact ⟨rfl, x18, rfl, Or.inr ⟨by omega, fun q => by have := si.mpr q; omega⟩⟩
        | exact ⟨rfl, x18, rfl, Or.inr ⟨by omega, fun q => by have := st_pos q (by omega); omega⟩⟩
theorem f_mdI {d : Nat} {Q : Option Value → am_W → Prop} {w : am_W} (x : Int64) (k wh n l L : Int32) (J : ab_J ab_TT ab_sets ab_WR w w) (K : ∀ al c : Int32, (0 ≤ c.toInt ∧ c.toInt ≤ 36) → ((al.toInt = 1 ∧ ∀ j : Nat, (j : Int) < szM w → bt (n64 x) j = 1 → rI w 77 j ≤ k.toInt) ∨ (al.toInt = 0 ∧ ∃ j : Nat, (j : Int) < szM w ∧ bt (n64 x) j = 1 ∧ k.toInt < rI w 77 j)) → aw none (d + 1) 160 Q (118, [some (.ref 65), some (.long x), none, some (.int k), some (.int wh), some (.int n), some (.int l), some (.int L), some (.int al), some (.int c)], []) w) : ∀ (m : Nat) (al c : Int32), (szM w - c.toInt).toNat < m → 0 ≤ c.toInt → c.toInt ≤ szM w → ((al.toInt = 1 ∧ ∀ j : Nat, (j : Int) < c.toInt → bt (n64 x) j = 1 → rI w 77 j ≤ k.toInt) ∨ (al.toInt = 0 ∧ ∃ j : Nat, (j : Int) < c.toInt ∧ bt (n64 x) j = 1 ∧ k.toInt < rI w 77 j)) → aw none (d + 1) 160 Q (71, [some (.ref 65), some (.long x), none, some (.int k), some (.int wh), some (.int n), some (.int l), some (.int L), some (.int al), some (.int c)], []) w := by
  have szm := szM_in J.1
  intro m
  induction m with
  | zero => intro al c p; omega
  | succ m ih =>
    intro al c p1 p2 p3 A
    refine aw_step (f1 := (73, [some (.ref 65), some (.long x), none, some (.int k), some (.int wh), some (.int n), some (.int l), some (.int L), some (.int al), some (.int c)], [(.int c)])) (w1 := w) rfl rfl ?_
    refine aw_step (f1 := (74, [some (.ref 65), some (.long x), none, some (.int k), some (.int wh), some (.int n), some (.int l), some (.int L), some (.int al), some (.int c)], [(.ref 65), (.int c)])) (w1 := w) rfl rfl ?_
    refine s_cv (z := 113) (p := 65) (as := []) (st1 := [(.int c)]) J 77 rfl rfl rfl rfl rfl rfl rfl rfl (Nat.le_of_ble_eq_true rfl) (Nat.le_of_ble_eq_true rfl) (q_cells J.1) ?_
    rintro _ _ ⟨rfl, x1, rfl, x1t⟩
    refine ⟨rfl, ?_⟩
    show aw none _ 160 _ (77, [some (.ref 65), some (.long x), none, some (.int k), some (.int wh), some (.int n), some (.int l), some (.int L), some (.int al), some (.int c)], [(.int x1), (.int c)]) w
    have x1s := szM_in J.1
    refine s_ic 118 80 rfl rfl rfl (fun (h2 : x1.toInt ≤ c.toInt) => ?_) (fun (h2 : ¬ (x1.toInt ≤ c.toInt)) => ?_)
    · --
      exact K al c ⟨by omega, by omega⟩ (by rw [← show c.toInt = szM w by omega]; exact A)
    · --
      refine aw_step (f1 := (82, [some (.ref 65), some (.long x), none, some (.int k), some (.int wh), some (.int n), some (.int l), some (.int L), some (.int al), some (.int c)], [(.int al)])) (w1 := w) rfl rfl ?_
      refine s_if 109 85 rfl rfl rfl (fun (h3 : al.toInt = 0) => ?_) (fun (h3 : ¬ (al.toInt = 0)) => ?_)
      · --
        refine s_i (pc1 := 110) (ls1 := [some (.ref 65), some (.long x), none, some (.int k), some (.int wh), some (.int n), some (.int l), some (.int L), some (.int al), some (.int c)]) (st1 := []) rfl rfl fun x4 e5 => ?_
        have e5t : x4.toInt = 0 := by rw [e5]; rfl
        refine aw_step (f1 := (112, [some (.ref 65), some (.long x), none, some (.int k), some (.int wh), some (.int n), some (.int l), some (.int L), some (.int x4), some (.int c)], [])) (w1 := w) rfl rfl ?_
        refine aw_step (f1 := (115, [some (.ref 65), some (.long x), none, some (.int k), some (.int wh), some (.int n), some (.int l), some (.int L), some (.int x4), some (.int (c + Int32.ofInt 1))], [])) (w1 := w) rfl rfl ?_
        obtain ⟨x6, x6e⟩ : ∃ z, z = (c + Int32.ofInt 1) := ⟨_, rfl⟩
        have x6t : x6.toInt = c.toInt + (1) := by rw [x6e]; exact n_add (y := Int32.ofInt (1)) (by show _ ≤ _ + (1 : Int); omega) (by show _ + (1 : Int) ≤ _; omega)
        rw [← x6e]
        refine aw_step (f1 := (71, [some (.ref 65), some (.long x), none, some (.int k), some (.int wh), some (.int n), some (.int l), some (.int L), some (.int x4), some (.int x6)], [])) (w1 := w) rfl rfl ?_
        refine ih x4 x6 (by clear A; omega) (by clear A; omega) (by clear A; omega) ?_
        rcases A with q | ⟨q1, q2, q3, q4, q5⟩
        · first
          | exact Or.inl ⟨by omega, fun j hj hb => by
              by_cases e : j = c.toInt.toNat
              · rw [e] at hb ⊢; omega
              · exact q.2 j (by omega) hb⟩
          | exact Or.inr ⟨by omega, c.toInt.toNat, by omega, by omega, by omega⟩
          | (exfalso; omega)
        · first
          | (exfalso; omega)
          | exact Or.inr ⟨by omega, q2, by omega, q4, q5⟩
      · --
        refine aw_step (f1 := (86, [some (.ref 65), some (.long x), none, some (.int k), some (.int wh), some (.int n), some (.int l), some (.int L), some (.int al), some (.int c)], [(.long x)])) (w1 := w) rfl rfl ?_
        refine aw_step (f1 := (88, [some (.ref 65), some (.long x), none, some (.int k), some (.int wh), some (.int n), some (.int l), some (.int L), some (.int al), some (.int c)], [(.int c), (.long x)])) (w1 := w) rfl rfl ?_
        refine s_cs (z := 110) (as := [(.long x), (.int c)]) (st1 := []) 91 rfl rfl rfl rfl rfl rfl (Nat.le_of_ble_eq_true rfl) (Nat.le_of_ble_eq_true rfl) (Nat.le_of_ble_eq_true rfl) (q_has x c (by omega) (by omega)) ?_
        rintro _ _ ⟨rfl, x7, rfl, x7t⟩
        refine ⟨rfl, ?_⟩
        show aw none _ 160 _ (91, [some (.ref 65), some (.long x), none, some (.int k), some (.int wh), some (.int n), some (.int l), some (.int L), some (.int al), some (.int c)], [(.int x7)]) w
        have x7l := bt_le (n64 x) c.toInt.toNat
        refine s_if 105 94 rfl rfl rfl (fun (h8 : x7.toInt = 0) => ?_) (fun (h8 : ¬ (x7.toInt = 0)) => ?_)
        · --
          refine s_i (pc1 := 106) (ls1 := [some (.ref 65), some (.long x), none, some (.int k), some (.int wh), some (.int n), some (.int l), some (.int L), some (.int al), some (.int c)]) (st1 := []) rfl rfl fun x9 e10 => ?_
          have e10t : x9.toInt = 1 := by rw [e10]; rfl
          refine aw_step (f1 := (110, [some (.ref 65), some (.long x), none, some (.int k), some (.int wh), some (.int n), some (.int l), some (.int L), some (.int al), some (.int c)], [(.int x9)])) (w1 := w) rfl rfl ?_
          refine aw_step (f1 := (112, [some (.ref 65), some (.long x), none, some (.int k), some (.int wh), some (.int n), some (.int l), some (.int L), some (.int x9), some (.int c)], [])) (w1 := w) rfl rfl ?_
          refine aw_step (f1 := (115, [some (.ref 65), some (.long x), none, some (.int k), some (.int wh), some (.int n), some (.int l), some (.int L), some (.int x9), some (.int (c + Int32.ofInt 1))], [])) (w1 := w) rfl rfl ?_
          obtain ⟨x11, x11e⟩ : ∃ z, z = (c + Int32.ofInt 1) := ⟨_, rfl⟩
          have x11t : x11.toInt = c.toInt + (1) := by rw [x11e]; exact n_add (y := Int32.ofInt (1)) (by show _ ≤ _ + (1 : Int); omega) (by show _ + (1 : Int) ≤ _; omega)
          rw [← x11e]
          refine aw_step (f1 := (71, [some (.ref 65), some (.long x), none, some (.int k), some (.int wh), some (.int n), some (.int l), some (.int L), some (.int x9), some (.int x11)], [])) (w1 := w) rfl rfl ?_
          refine ih x9 x11 (by clear A; omega) (by clear A; omega) (by clear A; omega) ?_
          rcases A with q | ⟨q1, q2, q3, q4, q5⟩
          · first
            | exact Or.inl ⟨by omega, fun j hj hb => by
                by_cases e : j = c.toInt.toNat
                · rw [e] at hb ⊢; omega
                · exact q.2 j (by omega) hb⟩
            | exact Or.inr ⟨by omega, c.toInt.toNat, by omega, by omega, by omega⟩
            | (exfalso; omega)
          · first
            | (exfalso; omega)
            | exact Or.inr ⟨by omega, q2, by omega, q4, q5⟩
        · --
          refine aw_step (f1 := (95, [some (.ref 65), some (.long x), none, some (.int k), some (.int wh), some (.int n), some (.int l), some (.int L), some (.int al), some (.int c)], [(.ref 65)])) (w1 := w) rfl rfl ?_
          refine s_gr 77 J 98 rfl rfl rfl rfl rfl rfl ?_
          refine aw_step (f1 := (100, [some (.ref 65), some (.long x), none, some (.int k), some (.int wh), some (.int n), some (.int l), some (.int L), some (.int al), some (.int c)], [(.int c), (.ref 77)])) (w1 := w) rfl rfl ?_
          refine s_ia J 101 rfl rfl rfl rfl (by omega) (by omega) fun x12 x12a x12b x12f => ?_
          have x12v : x12.toInt = rI w 77 c.toInt.toNat := by rw [← rI_of x12f]
          refine aw_step (f1 := (102, [some (.ref 65), some (.long x), none, some (.int k), some (.int wh), some (.int n), some (.int l), some (.int L), some (.int al), some (.int c)], [(.int k), (.int x12)])) (w1 := w) rfl rfl ?_
          refine s_ic 109 105 rfl rfl rfl (fun (h13 : k.toInt < x12.toInt) => ?_) (fun (h13 : ¬ (k.toInt < x12.toInt)) => ?_)
          · --
            refine s_i (pc1 := 110) (ls1 := [some (.ref 65), some (.long x), none, some (.int k), some (.int wh), some (.int n), some (.int l), some (.int L), some (.int al), some (.int c)]) (st1 := []) rfl rfl fun x14 e15 => ?_
            have e15t : x14.toInt = 0 := by rw [e15]; rfl
            refine aw_step (f1 := (112, [some (.ref 65), some (.long x), none, some (.int k), some (.int wh), some (.int n), some (.int l), some (.int L), some (.int x14), some (.int c)], [])) (w1 := w) rfl rfl ?_
            refine aw_step (f1 := (115, [some (.ref 65), some (.long x), none, some (.int k), some (.int wh), some (.int n), some (.int l), some (.int L), some (.int x14), some (.int (c + Int32.ofInt 1))], [])) (w1 := w) rfl rfl ?_
            obtain ⟨x16, x16e⟩ : ∃ z, z = (c + Int32.ofInt 1) := ⟨_, rfl⟩
            have x16t : x16.toInt = c.toInt + (1) := by rw [x16e]; exact n_add (y := Int32.ofInt (1)) (by show _ ≤ _ + (1 : Int); omega) (by show _ + (1 : Int) ≤ _; omega)
            rw [← x16e]
            refine aw_step (f1 := (71, [some (.ref 65), some (.long x), none, some (.int k), some (.int wh), some (.int n), some (.int l), some (.int L), some (.int x14), some (.int x16)], [])) (w1 := w) rfl rfl ?_
            refine ih x14 x16 (by clear A; omega) (by clear A; omega) (by clear A; omega) ?_
            rcases A with q | ⟨q1, q2, q3, q4, q5⟩
            · first
              | exact Or.inl ⟨by omega, fun j hj hb => by
                  by_cases e : j = c.toInt.toNat
                  · rw [e] at hb ⊢; omega
                  · exact q.2 j (by omega) hb⟩
              | exact Or.inr ⟨by omega, c.toInt.toNat, by omega, by omega, by omega⟩
              | (exfalso; omega)
            · first
              | (exfalso; omega)
              | exact Or.inr ⟨by omega, q2, by omega, q4, q5⟩
          · --
            refine s_i (pc1 := 106) (ls1 := [some (.ref 65), some (.long x), none, some (.int k), some (.int wh), some (.int n), some (.int l), some (.int L), some (.int al), some (.int c)]) (st1 := []) rfl rfl fun x17 e18 => ?_
            have e18t : x17.toInt = 1 := by rw [e18]; rfl
            refine aw_step (f1 := (110, [some (.ref 65), some (.long x), none, some (.int k), some (.int wh), some (.int n), some (.int l), some (.int L), some (.int al), some (.int c)], [(.int x17)])) (w1 := w) rfl rfl ?_
            refine aw_step (f1 := (112, [some (.ref 65), some (.long x), none, some (.int k), some (.int wh), some (.int n), some (.int l), some (.int L), some (.int x17), some (.int c)], [])) (w1 := w) rfl rfl ?_
            refine aw_step (f1 := (115, [some (.ref 65), some (.long x), none, some (.int k), some (.int wh), some (.int n), some (.int l), some (.int L), some (.int x17), some (.int (c + Int32.ofInt 1))], [])) (w1 := w) rfl rfl ?_
            obtain ⟨x19, x19e⟩ : ∃ z, z = (c + Int32.ofInt 1) := ⟨_, rfl⟩
            have x19t : x19.toInt = c.toInt + (1) := by rw [x19e]; exact n_add (y := Int32.ofInt (1)) (by show _ ≤ _ + (1 : Int); omega) (by show _ + (1 : Int) ≤ _; omega)
            rw [← x19e]
            refine aw_step (f1 := (71, [some (.ref 65), some (.long x), none, some (.int k), some (.int wh), some (.int n), some (.int l), some (.int L), some (.int x17), some (.int x19)], [])) (w1 := w) rfl rfl ?_
            refine ih x17 x19 (by clear A; omega) (by clear A; omega) (by clear A; omega) ?_
            rcases A with q | ⟨q1, q2, q3, q4, q5⟩
            · first
              | exact Or.inl ⟨by omega, fun j hj hb => by
                  by_cases e : j = c.toInt.toNat
                  · rw [e] at hb ⊢; omega
                  · exact q.2 j (by omega) hb⟩
              | exact Or.inr ⟨by omega, c.toInt.toNat, by omega, by omega, by omega⟩
              | (exfalso; omega)
            · first
              | (exfalso; omega)
              | exact Or.inr ⟨by omega, q2, by omega, q4, q5⟩
theorem f_mdL {d : Nat} {w00 : am_W} {V : Nat → Int} (R00 : RMs w00 V) (x : Int64) (k wh : Int32) (hk : 0 ≤ k.toInt ∧ k.toInt ≤ 35) (hwh : 0 ≤ wh.toInt ∧ wh.toInt ≤ 1) (sx0 : stV V (n64 x)) (hh : 0 ≤ V 2 ∧ V 2 < szV V) (hhl : V (40 + (V 2).toNat) ≠ 126) (I0 : ab_inv ab_TT ab_sets w00) : ∀ (m : Nat) (w : am_W) (n l L : Int32) (o8 o9 : Option Value), (51 - L.toInt).toNat < m → 1 ≤ L.toInt → L.toInt ≤ 51 → ab_J ab_TT ab_sets ab_WR w00 w → n.toInt = gC V (n64 x) (V 2).toNat k.toInt.toNat (L.toInt - 1).toNat → gL V (n64 x) (V 2).toNat k.toInt.toNat (L.toInt - 1) l.toInt → aw none (d + 5) 160 (fun r w1 => ab_J ab_TT ab_sets ab_WR w00 w1 ∧ ∃ z : Int32, r = some (.int z) ∧ madP V (n64 x) k.toInt wh.toInt z.toInt) (44, [some (.ref 65), some (.long x), none, some (.int k), some (.int wh), some (.int n), some (.int l), some (.int L), o8, o9], []) w := by
  have szm := szM_in I0
  have hsz := R00.sz
  intro m
  induction m with
  | zero => intro w n l L o8 o9 p; omega
  | succ m ih =>
    intro w n l L o8 o9 p1 p2 p3 J C M
    have R := R00.wr I0 J
    have r2 := R.f2
    have rz := R.sz
    have gb := gC_b V (n64 x) (V 2).toNat k.toInt.toNat (L.toInt - 1).toNat
    refine aw_step (f1 := (46, [some (.ref 65), some (.long x), none, some (.int k), some (.int wh), some (.int n), some (.int l), some (.int L), o8, o9], [(.int L)])) (w1 := w) rfl rfl ?_
    refine s_i (pc1 := 48) (ls1 := [some (.ref 65), some (.long x), none, some (.int k), some (.int wh), some (.int n), some (.int l), some (.int L), o8, o9]) (st1 := [(.int L)]) rfl rfl fun x1 e2 => ?_
    have e2t : x1.toInt = 50 := by rw [e2]; rfl
    refine s_ic 158 51 rfl rfl rfl (fun (h3 : x1.toInt < L.toInt) => ?_) (fun (h3 : ¬ (x1.toInt < L.toInt)) => ?_)
    · --
      refine aw_step (f1 := (160, [some (.ref 65), some (.long x), none, some (.int k), some (.int wh), some (.int n), some (.int l), some (.int L), o8, o9], [(.int wh)])) (w1 := w) rfl rfl ?_
      refine s_if 168 163 rfl rfl rfl (fun (h4 : ¬ wh.toInt = 0) => ?_) (fun (h4 : ¬ (¬ wh.toInt = 0)) => ?_)
      · --
        refine aw_step (f1 := (170, [some (.ref 65), some (.long x), none, some (.int k), some (.int wh), some (.int n), some (.int l), some (.int L), o8, o9], [(.int l)])) (w1 := w) rfl rfl ?_
        refine aw_ret (v := some (.int l)) rfl rfl ?_
        rw [show (L.toInt - 1).toNat = 50 by omega] at C
        rw [show L.toInt - 1 = 50 by omega] at M
        first
          | exact ⟨J, l, rfl, Or.inr ⟨⟨sx0, ⟨by omega, by omega⟩, by omega, by omega⟩, Or.inl ⟨by omega, C⟩⟩⟩
          | exact ⟨J, l, rfl, Or.inr ⟨⟨sx0, ⟨by omega, by omega⟩, by omega, by omega⟩, Or.inr ⟨by omega, M⟩⟩⟩
      · --
        refine aw_step (f1 := (165, [some (.ref 65), some (.long x), none, some (.int k), some (.int wh), some (.int n), some (.int l), some (.int L), o8, o9], [(.int n)])) (w1 := w) rfl rfl ?_
        refine aw_step (f1 := (170, [some (.ref 65), some (.long x), none, some (.int k), some (.int wh), some (.int n), some (.int l), some (.int L), o8, o9], [(.int n)])) (w1 := w) rfl rfl ?_
        refine aw_ret (v := some (.int n)) rfl rfl ?_
        rw [show (L.toInt - 1).toNat = 50 by omega] at C
        rw [show L.toInt - 1 = 50 by omega] at M
        first
          | exact ⟨J, n, rfl, Or.inr ⟨⟨sx0, ⟨by omega, by omega⟩, by omega, by omega⟩, Or.inl ⟨by omega, C⟩⟩⟩
          | exact ⟨J, n, rfl, Or.inr ⟨⟨sx0, ⟨by omega, by omega⟩, by omega, by omega⟩, Or.inr ⟨by omega, M⟩⟩⟩
    · --
      refine aw_step (f1 := (52, [some (.ref 65), some (.long x), none, some (.int k), some (.int wh), some (.int n), some (.int l), some (.int L), o8, o9], [(.ref 65)])) (w1 := w) rfl rfl ?_
      refine aw_step (f1 := (54, [some (.ref 65), some (.long x), none, some (.int k), some (.int wh), some (.int n), some (.int l), some (.int L), o8, o9], [(.int L), (.ref 65)])) (w1 := w) rfl rfl ?_
      refine s_cv (z := 132) (p := 65) (as := [(.int L)]) (st1 := []) J 57 rfl rfl rfl rfl rfl rfl rfl rfl (Nat.le_of_ble_eq_true rfl) (Nat.le_of_ble_eq_true rfl) (q_layBy L J.1) ?_
      rintro _ w5 ⟨rfl, J6c, w5o, w5p⟩
      have J6 := J.trans J6c
      refine ⟨am_len2 J J6c, ?_⟩
      show aw none _ 160 _ (57, [some (.ref 65), some (.long x), none, some (.int k), some (.int wh), some (.int n), some (.int l), some (.int L), o8, o9], []) w5
      refine aw_step (f1 := (58, [some (.ref 65), some (.long x), none, some (.int k), some (.int wh), some (.int n), some (.int l), some (.int L), o8, o9], [(.ref 65)])) (w1 := w5) rfl rfl ?_
      refine aw_step (f1 := (59, [some (.ref 65), some (.long x), none, some (.int k), some (.int wh), some (.int n), some (.int l), some (.int L), o8, o9], [(.ref 65), (.ref 65)])) (w1 := w5) rfl rfl ?_
      refine s_gi J6 62 rfl rfl rfl rfl rfl rfl fun x7 x7a x7b x7f => ?_
      have x7v : x7.toInt = fI w 65 3 := by rw [← fI_of x7f, w5o.fIe (by decide)]
      refine s_cv (z := 142) (p := 65) (as := [(.int x7)]) (st1 := []) J6 65 rfl rfl rfl rfl rfl rfl rfl rfl (Nat.le_of_ble_eq_true rfl) (Nat.le_of_ble_eq_true rfl) (q_findFar x7 ⟨by omega, by omega⟩ J6.1) ?_
      rintro _ w8 ⟨rfl, J9c, w8o, w8p⟩
      have J9 := J6.trans J9c
      refine ⟨am_len2 J6 J9c, ?_⟩
      show aw none _ 160 _ (65, [some (.ref 65), some (.long x), none, some (.int k), some (.int wh), some (.int n), some (.int l), some (.int L), o8, o9], []) w8
      refine s_i (pc1 := 66) (ls1 := [some (.ref 65), some (.long x), none, some (.int k), some (.int wh), some (.int n), some (.int l), some (.int L), o8, o9]) (st1 := []) rfl rfl fun x10 e11 => ?_
      have e11t : x10.toInt = 1 := by rw [e11]; rfl
      refine aw_step (f1 := (68, [some (.ref 65), some (.long x), none, some (.int k), some (.int wh), some (.int n), some (.int l), some (.int L), some (.int x10), o9], [])) (w1 := w8) rfl rfl ?_
      refine s_i (pc1 := 69) (ls1 := [some (.ref 65), some (.long x), none, some (.int k), some (.int wh), some (.int n), some (.int l), some (.int L), some (.int x10), o9]) (st1 := []) rfl rfl fun x12 e13 => ?_
      have e13t : x12.toInt = 0 := by rw [e13]; rfl
      refine aw_step (f1 := (71, [some (.ref 65), some (.long x), none, some (.int k), some (.int wh), some (.int n), some (.int l), some (.int L), some (.int x10), some (.int x12)], [])) (w1 := w8) rfl rfl ?_
      have O1 := w5o
      have O2 := w8o
      have Rq := R
      have z1 : szM w5 = szV V := by rw [← R.sz]; exact O1.sz (by decide)
      have z2 : szM w8 = szV V := by rw [← z1]; exact O2.sz (by decide)
      have lr0 := rowM_V R (by omega) w5p
      have fp := w8p
      rw [z1, show x7.toInt = V 2 by omega] at fp
      have dm := fPost_V (by omega) ⟨by omega, hhl⟩ lr0 fp
      have hr : ∀ j : Nat, j < 36 → rI w8 77 j = 100000 ∨ (0 ≤ rI w8 77 j ∧ rI w8 77 j < 36) := fun j hj => by have := fp.1 j hj; omega
      have wi : ∀ j : Nat, j < 36 → (rI w8 77 j ≤ k.toInt ↔ wV V L.toInt (V 2).toNat k.toInt.toNat j) := fun j hj => by
        have a := hr j hj
        constructor
        · intro q
          exact wV_le (n := (rI w8 77 j).toNat) (by omega) (dm.2 _ j hj (by omega) (by omega))
        · intro q
          have := dm.1 _ j (by omega) q
          omega
      refine f_mdI x k wh n l L ⟨J9.1, ab_fr.rf⟩ (fun al c hc A => ?_) 37 x10 x12 (by omega) (by omega) (by omega) (Or.inl ⟨by omega, fun j hj => by omega⟩)
      rw [z2] at A
      have gi : (al.toInt = 1 ∧ gd V (n64 x) (V 2).toNat k.toInt.toNat L.toInt) ∨ (al.toInt = 0 ∧ ¬ gd V (n64 x) (V 2).toNat k.toInt.toNat L.toInt) := by
        rcases A with q | ⟨q0, j, q1, q2, q3⟩
        · exact Or.inl ⟨q.1, fun j hj => (wi j (by have := (sx0 j hj).1; omega)).mp (q.2 j (sx0 j hj).1 hj)⟩
        · refine Or.inr ⟨q0, fun g => ?_⟩
          have := (wi j (by omega)).mpr (g j q2)
          omega
      clear A
      refine aw_step (f1 := (120, [some (.ref 65), some (.long x), none, some (.int k), some (.int wh), some (.int n), some (.int l), some (.int L), some (.int al), some (.int c)], [(.int al)])) (w1 := w8) rfl rfl ?_
      refine s_if 133 123 rfl rfl rfl (fun (zh1 : al.toInt = 0) => ?_) (fun (zh1 : ¬ (al.toInt = 0)) => ?_)
      · --
        --
        refine aw_step (f1 := (135, [some (.ref 65), some (.long x), none, some (.int k), some (.int wh), some (.int n), some (.int l), some (.int L), some (.int al), some (.int c)], [(.int l)])) (w1 := w8) rfl rfl ?_
        refine aw_step (f1 := (137, [some (.ref 65), some (.long x), none, some (.int k), some (.int wh), some (.int n), some (.int l), some (.int L), some (.int al), some (.int c)], [])) (w1 := w8) rfl rfl ?_
        refine aw_step (f1 := (139, [some (.ref 65), some (.long x), none, some (.int k), some (.int wh), some (.int n), some (.int l), some (.int L), some (.int al), some (.int c)], [(.int n)])) (w1 := w8) rfl rfl ?_
        refine aw_step (f1 := (141, [some (.ref 65), some (.long x), none, some (.int k), some (.int wh), some (.int n), some (.int l), some (.int L), some (.int al), some (.int c)], [(.int al), (.int n)])) (w1 := w8) rfl rfl ?_
        refine s_if 148 144 rfl rfl rfl (fun (zh2 : al.toInt = 0) => ?_) (fun (zh2 : ¬ (al.toInt = 0)) => ?_)
        · --
          --
          refine s_i (pc1 := 149) (ls1 := [some (.ref 65), some (.long x), none, some (.int k), some (.int wh), some (.int n), some (.int l), some (.int L), some (.int al), some (.int c)]) (st1 := [(.int n)]) rfl rfl fun zx3 ze4 => ?_
          have ze4t : zx3.toInt = 0 := by rw [ze4]; rfl
          refine s_i (pc1 := 150) (ls1 := [some (.ref 65), some (.long x), none, some (.int k), some (.int wh), some (.int n), some (.int l), some (.int L), some (.int al), some (.int c)]) (st1 := []) rfl rfl fun zx5 ze6 => ?_
          have ze6 : zx5 = n + zx3 := ze6
          have ze6t : zx5.toInt = n.toInt + zx3.toInt := by rw [ze6]; exact n_add (by omega) (by omega)
          refine aw_step (f1 := (152, [some (.ref 65), some (.long x), none, some (.int k), some (.int wh), some (.int zx5), some (.int l), some (.int L), some (.int al), some (.int c)], [])) (w1 := w8) rfl rfl ?_
          refine aw_step (f1 := (155, [some (.ref 65), some (.long x), none, some (.int k), some (.int wh), some (.int zx5), some (.int l), some (.int (L + Int32.ofInt 1)), some (.int al), some (.int c)], [])) (w1 := w8) rfl rfl ?_
          obtain ⟨zx7, zx7e⟩ : ∃ z, z = (L + Int32.ofInt 1) := ⟨_, rfl⟩
          have zx7t : zx7.toInt = L.toInt + (1) := by rw [zx7e]; exact n_add (y := Int32.ofInt (1)) (by show _ ≤ _ + (1 : Int); omega) (by show _ + (1 : Int) ≤ _; omega)
          rw [← zx7e]
          refine aw_step (f1 := (44, [some (.ref 65), some (.long x), none, some (.int k), some (.int wh), some (.int zx5), some (.int l), some (.int zx7), some (.int al), some (.int c)], [])) (w1 := w8) rfl rfl ?_
          rcases gi with q | q
          · first
            | (exfalso; omega)
            | (refine ih w8 zx5 l zx7 _ _ (by omega) (by omega) (by omega) J9 (by rw [show zx7.toInt - 1 = L.toInt by omega, gC_y (by omega) q.2]; omega) ?_
               rw [show zx7.toInt - 1 = L.toInt by omega]
               exact M.st (by omega) (Or.inl ⟨q.2, by rcases M with y | y <;> omega⟩))
          · first
            | (exfalso; omega)
            | (refine ih w8 zx5 l zx7 _ _ (by omega) (by omega) (by omega) J9 (by rw [show zx7.toInt - 1 = L.toInt by omega, gC_n (by omega) q.2]; omega) ?_
               rw [show zx7.toInt - 1 = L.toInt by omega]
               exact M.st (by omega) (Or.inr ⟨q.2, by omega⟩))
        · --
          --
          refine s_i (pc1 := 145) (ls1 := [some (.ref 65), some (.long x), none, some (.int k), some (.int wh), some (.int n), some (.int l), some (.int L), some (.int al), some (.int c)]) (st1 := [(.int n)]) rfl rfl fun zx8 ze9 => ?_
          have ze9t : zx8.toInt = 1 := by rw [ze9]; rfl
          refine aw_step (f1 := (149, [some (.ref 65), some (.long x), none, some (.int k), some (.int wh), some (.int n), some (.int l), some (.int L), some (.int al), some (.int c)], [(.int zx8), (.int n)])) (w1 := w8) rfl rfl ?_
          refine s_i (pc1 := 150) (ls1 := [some (.ref 65), some (.long x), none, some (.int k), some (.int wh), some (.int n), some (.int l), some (.int L), some (.int al), some (.int c)]) (st1 := []) rfl rfl fun zx10 ze11 => ?_
          have ze11 : zx10 = n + zx8 := ze11
          have ze11t : zx10.toInt = n.toInt + zx8.toInt := by rw [ze11]; exact n_add (by omega) (by omega)
          refine aw_step (f1 := (152, [some (.ref 65), some (.long x), none, some (.int k), some (.int wh), some (.int zx10), some (.int l), some (.int L), some (.int al), some (.int c)], [])) (w1 := w8) rfl rfl ?_
          refine aw_step (f1 := (155, [some (.ref 65), some (.long x), none, some (.int k), some (.int wh), some (.int zx10), some (.int l), some (.int (L + Int32.ofInt 1)), some (.int al), some (.int c)], [])) (w1 := w8) rfl rfl ?_
          obtain ⟨zx12, zx12e⟩ : ∃ z, z = (L + Int32.ofInt 1) := ⟨_, rfl⟩
          have zx12t : zx12.toInt = L.toInt + (1) := by rw [zx12e]; exact n_add (y := Int32.ofInt (1)) (by show _ ≤ _ + (1 : Int); omega) (by show _ + (1 : Int) ≤ _; omega)
          rw [← zx12e]
          refine aw_step (f1 := (44, [some (.ref 65), some (.long x), none, some (.int k), some (.int wh), some (.int zx10), some (.int l), some (.int zx12), some (.int al), some (.int c)], [])) (w1 := w8) rfl rfl ?_
          rcases gi with q | q
          · first
            | (exfalso; omega)
            | (refine ih w8 zx10 l zx12 _ _ (by omega) (by omega) (by omega) J9 (by rw [show zx12.toInt - 1 = L.toInt by omega, gC_y (by omega) q.2]; omega) ?_
               rw [show zx12.toInt - 1 = L.toInt by omega]
               exact M.st (by omega) (Or.inl ⟨q.2, by rcases M with y | y <;> omega⟩))
          · first
            | (exfalso; omega)
            | (refine ih w8 zx10 l zx12 _ _ (by omega) (by omega) (by omega) J9 (by rw [show zx12.toInt - 1 = L.toInt by omega, gC_n (by omega) q.2]; omega) ?_
               rw [show zx12.toInt - 1 = L.toInt by omega]
               exact M.st (by omega) (Or.inr ⟨q.2, by omega⟩))
      · --
        --
        refine aw_step (f1 := (125, [some (.ref 65), some (.long x), none, some (.int k), some (.int wh), some (.int n), some (.int l), some (.int L), some (.int al), some (.int c)], [(.int n)])) (w1 := w8) rfl rfl ?_
        refine s_if 133 128 rfl rfl rfl (fun (zh13 : ¬ n.toInt = 0) => ?_) (fun (zh13 : ¬ (¬ n.toInt = 0)) => ?_)
        · --
          --
          refine aw_step (f1 := (135, [some (.ref 65), some (.long x), none, some (.int k), some (.int wh), some (.int n), some (.int l), some (.int L), some (.int al), some (.int c)], [(.int l)])) (w1 := w8) rfl rfl ?_
          refine aw_step (f1 := (137, [some (.ref 65), some (.long x), none, some (.int k), some (.int wh), some (.int n), some (.int l), some (.int L), some (.int al), some (.int c)], [])) (w1 := w8) rfl rfl ?_
          refine aw_step (f1 := (139, [some (.ref 65), some (.long x), none, some (.int k), some (.int wh), some (.int n), some (.int l), some (.int L), some (.int al), some (.int c)], [(.int n)])) (w1 := w8) rfl rfl ?_
          refine aw_step (f1 := (141, [some (.ref 65), some (.long x), none, some (.int k), some (.int wh), some (.int n), some (.int l), some (.int L), some (.int al), some (.int c)], [(.int al), (.int n)])) (w1 := w8) rfl rfl ?_
          refine s_if 148 144 rfl rfl rfl (fun (zh14 : al.toInt = 0) => ?_) (fun (zh14 : ¬ (al.toInt = 0)) => ?_)
          · --
            --
            refine s_i (pc1 := 149) (ls1 := [some (.ref 65), some (.long x), none, some (.int k), some (.int wh), some (.int n), some (.int l), some (.int L), some (.int al), some (.int c)]) (st1 := [(.int n)]) rfl rfl fun zx15 ze16 => ?_
            have ze16t : zx15.toInt = 0 := by rw [ze16]; rfl
            refine s_i (pc1 := 150) (ls1 := [some (.ref 65), some (.long x), none, some (.int k), some (.int wh), some (.int n), some (.int l), some (.int L), some (.int al), some (.int c)]) (st1 := []) rfl rfl fun zx17 ze18 => ?_
            have ze18 : zx17 = n + zx15 := ze18
            have ze18t : zx17.toInt = n.toInt + zx15.toInt := by rw [ze18]; exact n_add (by omega) (by omega)
            refine aw_step (f1 := (152, [some (.ref 65), some (.long x), none, some (.int k), some (.int wh), some (.int zx17), some (.int l), some (.int L), some (.int al), some (.int c)], [])) (w1 := w8) rfl rfl ?_
            refine aw_step (f1 := (155, [some (.ref 65), some (.long x), none, some (.int k), some (.int wh), some (.int zx17), some (.int l), some (.int (L + Int32.ofInt 1)), some (.int al), some (.int c)], [])) (w1 := w8) rfl rfl ?_
            obtain ⟨zx19, zx19e⟩ : ∃ z, z = (L + Int32.ofInt 1) := ⟨_, rfl⟩
            have zx19t : zx19.toInt = L.toInt + (1) := by rw [zx19e]; exact n_add (y := Int32.ofInt (1)) (by show _ ≤ _ + (1 : Int); omega) (by show _ + (1 : Int) ≤ _; omega)
            rw [← zx19e]
            refine aw_step (f1 := (44, [some (.ref 65), some (.long x), none, some (.int k), some (.int wh), some (.int zx17), some (.int l), some (.int zx19), some (.int al), some (.int c)], [])) (w1 := w8) rfl rfl ?_
            rcases gi with q | q
            · first
              | (exfalso; omega)
              | (refine ih w8 zx17 l zx19 _ _ (by omega) (by omega) (by omega) J9 (by rw [show zx19.toInt - 1 = L.toInt by omega, gC_y (by omega) q.2]; omega) ?_
                 rw [show zx19.toInt - 1 = L.toInt by omega]
                 exact M.st (by omega) (Or.inl ⟨q.2, by rcases M with y | y <;> omega⟩))
            · first
              | (exfalso; omega)
              | (refine ih w8 zx17 l zx19 _ _ (by omega) (by omega) (by omega) J9 (by rw [show zx19.toInt - 1 = L.toInt by omega, gC_n (by omega) q.2]; omega) ?_
                 rw [show zx19.toInt - 1 = L.toInt by omega]
                 exact M.st (by omega) (Or.inr ⟨q.2, by omega⟩))
          · --
            --
            refine s_i (pc1 := 145) (ls1 := [some (.ref 65), some (.long x), none, some (.int k), some (.int wh), some (.int n), some (.int l), some (.int L), some (.int al), some (.int c)]) (st1 := [(.int n)]) rfl rfl fun zx20 ze21 => ?_
            have ze21t : zx20.toInt = 1 := by rw [ze21]; rfl
            refine aw_step (f1 := (149, [some (.ref 65), some (.long x), none, some (.int k), some (.int wh), some (.int n), some (.int l), some (.int L), some (.int al), some (.int c)], [(.int zx20), (.int n)])) (w1 := w8) rfl rfl ?_
            refine s_i (pc1 := 150) (ls1 := [some (.ref 65), some (.long x), none, some (.int k), some (.int wh), some (.int n), some (.int l), some (.int L), some (.int al), some (.int c)]) (st1 := []) rfl rfl fun zx22 ze23 => ?_
            have ze23 : zx22 = n + zx20 := ze23
            have ze23t : zx22.toInt = n.toInt + zx20.toInt := by rw [ze23]; exact n_add (by omega) (by omega)
            refine aw_step (f1 := (152, [some (.ref 65), some (.long x), none, some (.int k), some (.int wh), some (.int zx22), some (.int l), some (.int L), some (.int al), some (.int c)], [])) (w1 := w8) rfl rfl ?_
            refine aw_step (f1 := (155, [some (.ref 65), some (.long x), none, some (.int k), some (.int wh), some (.int zx22), some (.int l), some (.int (L + Int32.ofInt 1)), some (.int al), some (.int c)], [])) (w1 := w8) rfl rfl ?_
            obtain ⟨zx24, zx24e⟩ : ∃ z, z = (L + Int32.ofInt 1) := ⟨_, rfl⟩
            have zx24t : zx24.toInt = L.toInt + (1) := by rw [zx24e]; exact n_add (y := Int32.ofInt (1)) (by show _ ≤ _ + (1 : Int); omega) (by show _ + (1 : Int) ≤ _; omega)
            rw [← zx24e]
            refine aw_step (f1 := (44, [some (.ref 65), some (.long x), none, some (.int k), some (.int wh), some (.int zx22), some (.int l), some (.int zx24), some (.int al), some (.int c)], [])) (w1 := w8) rfl rfl ?_
            rcases gi with q | q
            · first
              | (exfalso; omega)
              | (refine ih w8 zx22 l zx24 _ _ (by omega) (by omega) (by omega) J9 (by rw [show zx24.toInt - 1 = L.toInt by omega, gC_y (by omega) q.2]; omega) ?_
                 rw [show zx24.toInt - 1 = L.toInt by omega]
                 exact M.st (by omega) (Or.inl ⟨q.2, by rcases M with y | y <;> omega⟩))
            · first
              | (exfalso; omega)
              | (refine ih w8 zx22 l zx24 _ _ (by omega) (by omega) (by omega) J9 (by rw [show zx24.toInt - 1 = L.toInt by omega, gC_n (by omega) q.2]; omega) ?_
                 rw [show zx24.toInt - 1 = L.toInt by omega]
                 exact M.st (by omega) (Or.inr ⟨q.2, by omega⟩))
        · --
          refine aw_step (f1 := (130, [some (.ref 65), some (.long x), none, some (.int k), some (.int wh), some (.int n), some (.int l), some (.int L), some (.int al), some (.int c)], [(.int L)])) (w1 := w8) rfl rfl ?_
          refine aw_step (f1 := (135, [some (.ref 65), some (.long x), none, some (.int k), some (.int wh), some (.int n), some (.int l), some (.int L), some (.int al), some (.int c)], [(.int L)])) (w1 := w8) rfl rfl ?_
          refine aw_step (f1 := (137, [some (.ref 65), some (.long x), none, some (.int k), some (.int wh), some (.int n), some (.int L), some (.int L), some (.int al), some (.int c)], [])) (w1 := w8) rfl rfl ?_
          refine aw_step (f1 := (139, [some (.ref 65), some (.long x), none, some (.int k), some (.int wh), some (.int n), some (.int L), some (.int L), some (.int al), some (.int c)], [(.int n)])) (w1 := w8) rfl rfl ?_
          refine aw_step (f1 := (141, [some (.ref 65), some (.long x), none, some (.int k), some (.int wh), some (.int n), some (.int L), some (.int L), some (.int al), some (.int c)], [(.int al), (.int n)])) (w1 := w8) rfl rfl ?_
          refine s_if 148 144 rfl rfl rfl (fun (zh25 : al.toInt = 0) => ?_) (fun (zh25 : ¬ (al.toInt = 0)) => ?_)
          · --
            --
            refine s_i (pc1 := 149) (ls1 := [some (.ref 65), some (.long x), none, some (.int k), some (.int wh), some (.int n), some (.int L), some (.int L), some (.int al), some (.int c)]) (st1 := [(.int n)]) rfl rfl fun zx26 ze27 => ?_
            have ze27t : zx26.toInt = 0 := by rw [ze27]; rfl
            refine s_i (pc1 := 150) (ls1 := [some (.ref 65), some (.long x), none, some (.int k), some (.int wh), some (.int n), some (.int L), some (.int L), some (.int al), some (.int c)]) (st1 := []) rfl rfl fun zx28 ze29 => ?_
            have ze29 : zx28 = n + zx26 := ze29
            have ze29t : zx28.toInt = n.toInt + zx26.toInt := by rw [ze29]; exact n_add (by omega) (by omega)
            refine aw_step (f1 := (152, [some (.ref 65), some (.long x), none, some (.int k), some (.int wh), some (.int zx28), some (.int L), some (.int L), some (.int al), some (.int c)], [])) (w1 := w8) rfl rfl ?_
            refine aw_step (f1 := (155, [some (.ref 65), some (.long x), none, some (.int k), some (.int wh), some (.int zx28), some (.int L), some (.int (L + Int32.ofInt 1)), some (.int al), some (.int c)], [])) (w1 := w8) rfl rfl ?_
            obtain ⟨zx30, zx30e⟩ : ∃ z, z = (L + Int32.ofInt 1) := ⟨_, rfl⟩
            have zx30t : zx30.toInt = L.toInt + (1) := by rw [zx30e]; exact n_add (y := Int32.ofInt (1)) (by show _ ≤ _ + (1 : Int); omega) (by show _ + (1 : Int) ≤ _; omega)
            rw [← zx30e]
            refine aw_step (f1 := (44, [some (.ref 65), some (.long x), none, some (.int k), some (.int wh), some (.int zx28), some (.int L), some (.int zx30), some (.int al), some (.int c)], [])) (w1 := w8) rfl rfl ?_
            rcases gi with q | q
            · first
              | (exfalso; omega)
              | (refine ih w8 zx28 L zx30 _ _ (by omega) (by omega) (by omega) J9 (by rw [show zx30.toInt - 1 = L.toInt by omega, gC_y (by omega) q.2]; omega) ?_
                 rw [show zx30.toInt - 1 = L.toInt by omega]
                 exact M.st (by omega) (Or.inl ⟨q.2, by rcases M with y | y <;> omega⟩))
            · first
              | (exfalso; omega)
              | (refine ih w8 zx28 L zx30 _ _ (by omega) (by omega) (by omega) J9 (by rw [show zx30.toInt - 1 = L.toInt by omega, gC_n (by omega) q.2]; omega) ?_
                 rw [show zx30.toInt - 1 = L.toInt by omega]
                 exact M.st (by omega) (Or.inr ⟨q.2, by omega⟩))
          · --
            --
            refine s_i (pc1 := 145) (ls1 := [some (.ref 65), some (.long x), none, some (.int k), some (.int wh), some (.int n), some (.int L), some (.int L), some (.int al), some (.int c)]) (st1 := [(.int n)]) rfl rfl fun zx31 ze32 => ?_
            have ze32t : zx31.toInt = 1 := by rw [ze32]; rfl
            refine aw_step (f1 := (149, [some (.ref 65), some (.long x), none, some (.int k), some (.int wh), some (.int n), some (.int L), some (.int L), some (.int al), some (.int c)], [(.int zx31), (.int n)])) (w1 := w8) rfl rfl ?_
            refine s_i (pc1 := 150) (ls1 := [some (.ref 65), some (.long x), none, some (.int k), some (.int wh), some (.int n), some (.int L), some (.int L), some (.int al), some (.int c)]) (st1 := []) rfl rfl fun zx33 ze34 => ?_
            have ze34 : zx33 = n + zx31 := ze34
            have ze34t : zx33.toInt = n.toInt + zx31.toInt := by rw [ze34]; exact n_add (by omega) (by omega)
            refine aw_step (f1 := (152, [some (.ref 65), some (.long x), none, some (.int k), some (.int wh), some (.int zx33), some (.int L), some (.int L), some (.int al), some (.int c)], [])) (w1 := w8) rfl rfl ?_
            refine aw_step (f1 := (155, [some (.ref 65), some (.long x), none, some (.int k), some (.int wh), some (.int zx33), some (.int L), some (.int (L + Int32.ofInt 1)), some (.int al), some (.int c)], [])) (w1 := w8) rfl rfl ?_
            obtain ⟨zx35, zx35e⟩ : ∃ z, z = (L + Int32.ofInt 1) := ⟨_, rfl⟩
            have zx35t : zx35.toInt = L.toInt + (1) := by rw [zx35e]; exact n_add (y := Int32.ofInt (1)) (by show _ ≤ _ + (1 : Int); omega) (by show _ + (1 : Int) ≤ _; omega)
            rw [← zx35e]
            refine aw_step (f1 := (44, [some (.ref 65), some (.long x), none, some (.int k), some (.int wh), some (.int zx33), some (.int L), some (.int zx35), some (.int al), some (.int c)], [])) (w1 := w8) rfl rfl ?_
            rcases gi with q | q
            · first
              | (exfalso; omega)
              | (refine ih w8 zx33 L zx35 _ _ (by omega) (by omega) (by omega) J9 (by rw [show zx35.toInt - 1 = L.toInt by omega, gC_y (by omega) q.2]; omega) ?_
                 rw [show zx35.toInt - 1 = L.toInt by omega]
                 exact M.st (by omega) (Or.inl ⟨q.2, by rcases M with y | y <;> omega⟩))
            · first
              | (exfalso; omega)
              | (refine ih w8 zx33 L zx35 _ _ (by omega) (by omega) (by omega) J9 (by rw [show zx35.toInt - 1 = L.toInt by omega, gC_n (by omega) q.2]; omega) ?_
                 rw [show zx35.toInt - 1 = L.toInt by omega]
                 exact M.st (by omega) (Or.inr ⟨q.2, by omega⟩))
theorem f_made {d : Nat} {w : am_W} {V : Nat → Int} (R : RMs w V) (hh : 0 ≤ V 2 ∧ V 2 < szV V) (hhl : V (40 + (V 2).toNat) ≠ 126) (x : Int64) (k wh : Int32) (I : ab_inv ab_TT ab_sets w) : aw none (d + 5) 160 (fun r w1 => ab_J ab_TT ab_sets ab_WR w w1 ∧ ∃ z : Int32, r = some (.int z) ∧ madP V (n64 x) k.toInt wh.toInt z.toInt) (0, am_entry 160 [.ref 65, .long x, .int k, .int wh], []) w := by
  have J : ab_J ab_TT ab_sets ab_WR w w := ⟨I, ab_fr.rf⟩
  have szm := szM_in I
  have hsz := R.sz
  show aw none (d + 5) 160 _ (0, [some (.ref 65), some (.long x), none, some (.int k), some (.int wh), none, none, none, none, none], []) w
  refine aw_step (f1 := (1, [some (.ref 65), some (.long x), none, some (.int k), some (.int wh), none, none, none, none, none], [(.ref 65)])) (w1 := w) rfl rfl ?_
  refine aw_step (f1 := (2, [some (.ref 65), some (.long x), none, some (.int k), some (.int wh), none, none, none, none, none], [(.long x), (.ref 65)])) (w1 := w) rfl rfl ?_
  refine s_cv (z := 152) (p := 65) (as := [(.long x)]) (st1 := []) J 5 rfl rfl rfl rfl rfl rfl rfl rfl (Nat.le_of_ble_eq_true rfl) (Nat.le_of_ble_eq_true rfl) (f_isSet R x J.1) ?_
  rintro _ _ ⟨rfl, x1, rfl, x1t⟩
  refine ⟨rfl, ?_⟩
  show aw none _ 160 _ (5, [some (.ref 65), some (.long x), none, some (.int k), some (.int wh), none, none, none, none, none], [(.int x1)]) w
  refine s_if 31 8 rfl rfl rfl (fun (h2 : x1.toInt = 0) => ?_) (fun (h2 : ¬ (x1.toInt = 0)) => ?_)
  · --
    refine s_i (pc1 := 33) (ls1 := [some (.ref 65), some (.long x), none, some (.int k), some (.int wh), none, none, none, none, none]) (st1 := []) rfl rfl fun x3 e4 => ?_
    have e4t : x3.toInt = -2 := by rw [e4]; rfl
    refine aw_ret (v := some (.int x3)) rfl rfl ?_
    first
      | exact ⟨J, x3, rfl, Or.inl ⟨by omega, Or.inr (by omega)⟩⟩
      | exact ⟨J, x3, rfl, Or.inl ⟨by omega, Or.inl (x1t.resolve_left (fun q => by omega)).2⟩⟩
  · --
    refine aw_step (f1 := (9, [some (.ref 65), some (.long x), none, some (.int k), some (.int wh), none, none, none, none, none], [(.int k)])) (w1 := w) rfl rfl ?_
    refine s_l (pc1 := 10) (ls1 := [some (.ref 65), some (.long x), none, some (.int k), some (.int wh), none, none, none, none, none]) (st1 := []) rfl rfl fun y5 e6 => ?_
    have e6t : y5.toInt = k.toInt := by rw [e6]; exact Int32.toInt_toInt64 k
    refine s_l (pc1 := 11) (ls1 := [some (.ref 65), some (.long x), none, some (.int k), some (.int wh), none, none, none, none, none]) (st1 := [(.long y5)]) rfl rfl fun y7 e8 => ?_
    have e8t : y7.toInt = 0 := by rw [e8]; rfl
    refine s_l (pc1 := 14) (ls1 := [some (.ref 65), some (.long x), none, some (.int k), some (.int wh), none, none, none, none, none]) (st1 := [(.long y7), (.long y5)]) rfl rfl fun y9 e10 => ?_
    have e10t : y9.toInt = 35 := by rw [e10]; rfl
    refine s_cs (z := 108) (as := [(.long y5), (.long y7), (.long y9)]) (st1 := []) 17 rfl rfl rfl rfl rfl rfl (Nat.le_of_ble_eq_true rfl) (Nat.le_of_ble_eq_true rfl) (Nat.le_of_ble_eq_true rfl) (q_in2 y5 y7 y9) ?_
    rintro _ _ ⟨rfl, x11, rfl, x11t⟩
    refine ⟨rfl, ?_⟩
    show aw none _ 160 _ (17, [some (.ref 65), some (.long x), none, some (.int k), some (.int wh), none, none, none, none, none], [(.int x11)]) w
    refine s_if 31 20 rfl rfl rfl (fun (h12 : x11.toInt = 0) => ?_) (fun (h12 : ¬ (x11.toInt = 0)) => ?_)
    · --
      refine s_i (pc1 := 33) (ls1 := [some (.ref 65), some (.long x), none, some (.int k), some (.int wh), none, none, none, none, none]) (st1 := []) rfl rfl fun x13 e14 => ?_
      have e14t : x13.toInt = -2 := by rw [e14]; rfl
      refine aw_ret (v := some (.int x13)) rfl rfl ?_
      first
        | exact ⟨J, x13, rfl, Or.inl ⟨by omega, Or.inr (by omega)⟩⟩
        | exact ⟨J, x13, rfl, Or.inl ⟨by omega, Or.inl (x1t.resolve_left (fun q => by omega)).2⟩⟩
    · --
      refine aw_step (f1 := (22, [some (.ref 65), some (.long x), none, some (.int k), some (.int wh), none, none, none, none, none], [(.int wh)])) (w1 := w) rfl rfl ?_
      refine s_l (pc1 := 23) (ls1 := [some (.ref 65), some (.long x), none, some (.int k), some (.int wh), none, none, none, none, none]) (st1 := []) rfl rfl fun y15 e16 => ?_
      have e16t : y15.toInt = wh.toInt := by rw [e16]; exact Int32.toInt_toInt64 wh
      refine s_l (pc1 := 24) (ls1 := [some (.ref 65), some (.long x), none, some (.int k), some (.int wh), none, none, none, none, none]) (st1 := [(.long y15)]) rfl rfl fun y17 e18 => ?_
      have e18t : y17.toInt = 0 := by rw [e18]; rfl
      refine s_l (pc1 := 25) (ls1 := [some (.ref 65), some (.long x), none, some (.int k), some (.int wh), none, none, none, none, none]) (st1 := [(.long y17), (.long y15)]) rfl rfl fun y19 e20 => ?_
      have e20t : y19.toInt = 1 := by rw [e20]; rfl
      refine s_cs (z := 108) (as := [(.long y15), (.long y17), (.long y19)]) (st1 := []) 28 rfl rfl rfl rfl rfl rfl (Nat.le_of_ble_eq_true rfl) (Nat.le_of_ble_eq_true rfl) (Nat.le_of_ble_eq_true rfl) (q_in2 y15 y17 y19) ?_
      rintro _ _ ⟨rfl, x21, rfl, x21t⟩
      refine ⟨rfl, ?_⟩
      show aw none _ 160 _ (28, [some (.ref 65), some (.long x), none, some (.int k), some (.int wh), none, none, none, none, none], [(.int x21)]) w
      refine s_if 34 31 rfl rfl rfl (fun (h22 : ¬ x21.toInt = 0) => ?_) (fun (h22 : ¬ (¬ x21.toInt = 0)) => ?_)
      · --
        refine s_i (pc1 := 35) (ls1 := [some (.ref 65), some (.long x), none, some (.int k), some (.int wh), none, none, none, none, none]) (st1 := []) rfl rfl fun x23 e24 => ?_
        have e24t : x23.toInt = 0 := by rw [e24]; rfl
        refine aw_step (f1 := (37, [some (.ref 65), some (.long x), none, some (.int k), some (.int wh), some (.int x23), none, none, none, none], [])) (w1 := w) rfl rfl ?_
        refine s_i (pc1 := 39) (ls1 := [some (.ref 65), some (.long x), none, some (.int k), some (.int wh), some (.int x23), none, none, none, none]) (st1 := []) rfl rfl fun x25 e26 => ?_
        have e26t : x25.toInt = -6 := by rw [e26]; rfl
        refine aw_step (f1 := (41, [some (.ref 65), some (.long x), none, some (.int k), some (.int wh), some (.int x23), some (.int x25), none, none, none], [])) (w1 := w) rfl rfl ?_
        refine s_i (pc1 := 42) (ls1 := [some (.ref 65), some (.long x), none, some (.int k), some (.int wh), some (.int x23), some (.int x25), none, none, none]) (st1 := []) rfl rfl fun x27 e28 => ?_
        have e28t : x27.toInt = 1 := by rw [e28]; rfl
        refine aw_step (f1 := (44, [some (.ref 65), some (.long x), none, some (.int k), some (.int wh), some (.int x23), some (.int x25), some (.int x27), none, none], [])) (w1 := w) rfl rfl ?_
        exact f_mdL R x k wh ⟨by omega, by omega⟩ ⟨by omega, by omega⟩ (x1t.resolve_right (fun q => by omega)).2 hh hhl I 51 w x23 x25 x27 _ _ (by omega) (by omega) (by omega) J (by rw [show (x27.toInt - 1).toNat = 0 by omega]; show _ = (0 : Int); omega) (by rw [show x27.toInt - 1 = 0 by omega]; exact Or.inl ⟨by omega, rfl, fun M a b => by omega⟩)
      · --
        refine s_i (pc1 := 33) (ls1 := [some (.ref 65), some (.long x), none, some (.int k), some (.int wh), none, none, none, none, none]) (st1 := []) rfl rfl fun x29 e30 => ?_
        have e30t : x29.toInt = -2 := by rw [e30]; rfl
        refine aw_ret (v := some (.int x29)) rfl rfl ?_
        first
          | exact ⟨J, x29, rfl, Or.inl ⟨by omega, Or.inr (by omega)⟩⟩
          | exact ⟨J, x29, rfl, Or.inl ⟨by omega, Or.inl (x1t.resolve_left (fun q => by omega)).2⟩⟩
