/-! ===== year ===== -/
theorem cnt_in {x a b : Nat} (h : a < b) (q : bt x a = 1) : cnt x a < cnt x b := by
  have := cnt_mono x (a := a + 1) (b := b) (by omega)
  rw [bt_s, q] at this
  omega
/-- the cell on which the draw falls -/
noncomputable def drP (V : Nat → Int) (L : Int) (c0 : Nat) (x : Int) (c : Nat) : Prop := ∃ s : Nat, lsV V L c0 s ∧ ((cnt s 64 = 0 ∧ c = c0) ∨ (cnt s 64 ≠ 0 ∧ bt s c = 1 ∧ (cnt s c : Int) = x % (cnt s 64 : Int)))
theorem drP.uniq {V : Nat → Int} {L x : Int} {c0 a b : Nat} (h : drP V L c0 x a) (g : drP V L c0 x b) : b = a := by
  obtain ⟨s, h1, h2⟩ := h
  obtain ⟨t, g1, g2⟩ := g
  have e := bt_un h1 g1
  subst e
  rcases h2 with h2 | ⟨h2, h3, h4⟩ <;> rcases g2 with g2 | ⟨g2, g3, g4⟩
  · omega
  · omega
  · omega
  · rcases Nat.lt_trichotomy a b with q | q | q
    · have := cnt_in q h3; omega
    · exact q.symm
    · have := cnt_in q g3; omega
/-- n strides of a year: the number drawn, where one is, where one has been, how often at home -/
noncomputable def yW (V : Nat → Int) (L sd : Int) : Nat → Int → Nat → Nat → Int → Prop
  | 0, x, c, bn, h => x = sd ∧ c = (V 2).toNat ∧ bn = 2 ^ (V 2).toNat ∧ h = 0
  | n + 1, x, c, bn, h => ∃ x0 c0 b0 h0, yW V L sd n x0 c0 b0 h0 ∧ x = (75 * x0 + 74) % 65537 ∧ drP V L c0 x c ∧ bn = b0 ||| 2 ^ c ∧ h = h0 + (if (c : Int) = V 2 then 1 else 0)
theorem yW.uniq {V : Nat → Int} {L sd : Int} : ∀ {n : Nat} {x y : Int} {c e b d : Nat} {h g : Int}, yW V L sd n x c b h → yW V L sd n y e d g → y = x ∧ e = c ∧ d = b ∧ g = h
  | 0, x, y, c, e, b, d, h, g, ⟨a1, a2, a3, a4⟩, ⟨b1, b2, b3, b4⟩ => ⟨by omega, by omega, by rw [a3, b3], by omega⟩
  | n + 1, x, y, c, e, b, d, h, g, ⟨x0, c0, b0, h0, a1, a2, a3, a4, a5⟩, ⟨y0, e0, d0, g0, b1, b2, b3, b4, b5⟩ => by
    obtain ⟨u1, u2, u3, u4⟩ := yW.uniq a1 b1
    subst u1
    subst u2
    subst u3
    subst u4
    have v1 : y = x := by omega
    subst v1
    have v2 := drP.uniq a3 b3
    subst v2
    exact ⟨rfl, rfl, by rw [a4, b4], by rw [a5, b5]⟩
noncomputable def yerP (V : Nat → Int) (b sd n wh z : Int) : Prop := (z = -1 ∧ (b < 0 ∨ 3 < b)) ∨ (z = -2 ∧ (0 ≤ b ∧ b ≤ 3) ∧ ((sd < 0 ∨ 9999 < sd) ∨ (n < 1 ∨ 99 < n) ∨ wh < 0 ∨ 2 < wh)) ∨ ((0 ≤ b ∧ b ≤ 3) ∧ (0 ≤ sd ∧ sd ≤ 9999) ∧ (1 ≤ n ∧ n ≤ 99) ∧ (0 ≤ wh ∧ wh ≤ 2) ∧ ∃ x c bn h, yW V (V (8 + 4 * b.toNat + 0)) sd n.toNat x c bn h ∧ ((wh = 0 ∧ z = (c : Int)) ∨ (wh = 1 ∧ z = (cnt bn 64 : Int)) ∨ (wh = 2 ∧ z = h)))
theorem U_year {V : Nat → Int} {b sd n wh z z2 : Int} (h : yerP V b sd n wh z) (g : yerP V b sd n wh z2) : z2 = z := by
  rcases h with h | h | ⟨h1, h2, h3, h4, x, c, bn, hh, h5, h6⟩ <;> rcases g with g | g | ⟨g1, g2, g3, g4, y, e, d, gg, g5, g6⟩
  · omega
  · omega
  · omega
  · omega
  · omega
  · omega
  · omega
  · omega
  · obtain ⟨u1, u2, u3, u4⟩ := yW.uniq h5 g5
    subst u2
    subst u3
    subst u4
    omega
theorem lsV_64 {V : Nat → Int} {s b : Int} {x : Nat} (h : lsV V s b x) (hz : szV V ≤ 36) : ∀ i, cnt x (36 + i) = cnt x 36 := cnt_top (h.lt hz)
theorem e_drL {d : Nat} {w : am_W} (s : Int64) (x a m : Int32) (hs : cnt (n64 s) 64 = cnt (n64 s) 36) (hm : m.toInt = cnt (n64 s) 64) (h0 : cnt (n64 s) 64 ≠ 0) (hx : x.toInt % (cnt (n64 s) 64 : Int) < cnt (n64 s) 64) : ∀ (k : Nat) (l c : Int32), (36 - c.toInt).toNat < k → 0 ≤ c.toInt → c.toInt ≤ 36 → 0 ≤ l.toInt → l.toInt + cnt (n64 s) c.toInt.toNat = x.toInt % (cnt (n64 s) 64 : Int) → aw none (d + 1) 100 (fun r w1 => w = w1 ∧ ∃ z : Int32, r = some (.int z) ∧ 0 ≤ z.toInt ∧ ((cnt (n64 s) 64 = 0 ∧ z.toInt = a.toInt) ∨ (cnt (n64 s) 64 ≠ 0 ∧ bt (n64 s) z.toInt.toNat = 1 ∧ (cnt (n64 s) z.toInt.toNat : Int) = x.toInt % (cnt (n64 s) 64 : Int)))) (22, [some (.long s), none, some (.int x), some (.int a), some (.int m), some (.int l), some (.int c)], []) w := by
  intro k
  induction k with
  | zero => intro l c p; omega
  | succ k ih =>
    intro l c p1 p2 p3 p4 F
    have lb := ab_any32 l
    unfold ab_lo32 ab_hi32 at lb
    refine aw_step (f1 := (24, [some (.long s), none, some (.int x), some (.int a), some (.int m), some (.int l), some (.int c)], [(.int c)])) (w1 := w) rfl rfl ?_
    refine s_i (pc1 := 26) (ls1 := [some (.long s), none, some (.int x), some (.int a), some (.int m), some (.int l), some (.int c)]) (st1 := [(.int c)]) rfl rfl fun x1 e2 => ?_
    have e2t : x1.toInt = 36 := by rw [e2]; rfl
    refine s_ic 55 29 rfl rfl rfl (fun (h3 : x1.toInt ≤ c.toInt) => ?_) (fun (h3 : ¬ (x1.toInt ≤ c.toInt)) => ?_)
    · --
      refine aw_step (f1 := (56, [some (.long s), none, some (.int x), some (.int a), some (.int m), some (.int l), some (.int c)], [(.int a)])) (w1 := w) rfl rfl ?_
      refine aw_ret (v := some (.int a)) rfl rfl ?_
      first
        | exact ⟨rfl, a, rfl, by omega, Or.inr ⟨by omega, by omega, by omega⟩⟩
        | (exfalso; rw [show c.toInt.toNat = 36 by omega] at F; omega)
    · --
      refine aw_step (f1 := (30, [some (.long s), none, some (.int x), some (.int a), some (.int m), some (.int l), some (.int c)], [(.long s)])) (w1 := w) rfl rfl ?_
      refine aw_step (f1 := (32, [some (.long s), none, some (.int x), some (.int a), some (.int m), some (.int l), some (.int c)], [(.int c), (.long s)])) (w1 := w) rfl rfl ?_
      refine s_cs (z := 105) (as := [(.long s), (.int c)]) (st1 := []) 35 rfl rfl rfl rfl rfl rfl (Nat.le_of_ble_eq_true rfl) (Nat.le_of_ble_eq_true rfl) (Nat.le_of_ble_eq_true rfl) (q_hasC s c (by omega) (by omega)) ?_
      rintro _ _ ⟨rfl, x4, rfl, x4t⟩
      refine ⟨rfl, ?_⟩
      show aw none _ 100 _ (35, [some (.long s), none, some (.int x), some (.int a), some (.int m), some (.int l), some (.int c)], [(.int x4)]) w
      have x4l := bt_le (n64 s) c.toInt.toNat
      refine s_if 49 38 rfl rfl rfl (fun (h5 : x4.toInt = 0) => ?_) (fun (h5 : ¬ (x4.toInt = 0)) => ?_)
      · --
        refine aw_step (f1 := (52, [some (.long s), none, some (.int x), some (.int a), some (.int m), some (.int l), some (.int (c + Int32.ofInt 1))], [])) (w1 := w) rfl rfl ?_
        obtain ⟨x6, x6e⟩ : ∃ z, z = (c + Int32.ofInt 1) := ⟨_, rfl⟩
        have x6t : x6.toInt = c.toInt + (1) := by rw [x6e]; exact n_add (y := Int32.ofInt (1)) (by show _ ≤ _ + (1 : Int); omega) (by show _ + (1 : Int) ≤ _; omega)
        rw [← x6e]
        refine aw_step (f1 := (22, [some (.long s), none, some (.int x), some (.int a), some (.int m), some (.int l), some (.int x6)], [])) (w1 := w) rfl rfl ?_
        refine ih l x6 (by omega) (by omega) (by omega) (by omega) ?_
        rw [show x6.toInt.toNat = c.toInt.toNat + 1 by omega, bt_s]
        omega
      · --
        refine aw_step (f1 := (40, [some (.long s), none, some (.int x), some (.int a), some (.int m), some (.int l), some (.int c)], [(.int l)])) (w1 := w) rfl rfl ?_
        refine s_if 46 43 rfl rfl rfl (fun (h7 : ¬ l.toInt = 0) => ?_) (fun (h7 : ¬ (¬ l.toInt = 0)) => ?_)
        · --
          refine aw_step (f1 := (49, [some (.long s), none, some (.int x), some (.int a), some (.int m), some (.int (l + Int32.ofInt (-1))), some (.int c)], [])) (w1 := w) rfl rfl ?_
          obtain ⟨x8, x8e⟩ : ∃ z, z = (l + Int32.ofInt (-1)) := ⟨_, rfl⟩
          have x8t : x8.toInt = l.toInt + (-1) := by rw [x8e]; exact n_add (y := Int32.ofInt (-1)) (by show _ ≤ _ + (-1 : Int); omega) (by show _ + (-1 : Int) ≤ _; omega)
          rw [← x8e]
          refine aw_step (f1 := (52, [some (.long s), none, some (.int x), some (.int a), some (.int m), some (.int x8), some (.int (c + Int32.ofInt 1))], [])) (w1 := w) rfl rfl ?_
          obtain ⟨x9, x9e⟩ : ∃ z, z = (c + Int32.ofInt 1) := ⟨_, rfl⟩
          have x9t : x9.toInt = c.toInt + (1) := by rw [x9e]; exact n_add (y := Int32.ofInt (1)) (by show _ ≤ _ + (1 : Int); omega) (by show _ + (1 : Int) ≤ _; omega)
          rw [← x9e]
          refine aw_step (f1 := (22, [some (.long s), none, some (.int x), some (.int a), some (.int m), some (.int x8), some (.int x9)], [])) (w1 := w) rfl rfl ?_
          refine ih x8 x9 (by omega) (by omega) (by omega) (by omega) ?_
          rw [show x9.toInt.toNat = c.toInt.toNat + 1 by omega, bt_s]
          omega
        · --
          refine aw_step (f1 := (45, [some (.long s), none, some (.int x), some (.int a), some (.int m), some (.int l), some (.int c)], [(.int c)])) (w1 := w) rfl rfl ?_
          refine aw_ret (v := some (.int c)) rfl rfl ?_
          first
            | exact ⟨rfl, c, rfl, by omega, Or.inr ⟨by omega, by omega, by omega⟩⟩
            | (exfalso; rw [show c.toInt.toNat = 36 by omega] at F; omega)
theorem e_drawn {d : Nat} {w : am_W} (s : Int64) (x a : Int32) (hs : cnt (n64 s) 64 = cnt (n64 s) 36) (hx : 0 ≤ x.toInt) (ha : 0 ≤ a.toInt) : aw none (d + 1) 100 (fun r w1 => w = w1 ∧ ∃ z : Int32, r = some (.int z) ∧ 0 ≤ z.toInt ∧ ((cnt (n64 s) 64 = 0 ∧ z.toInt = a.toInt) ∨ (cnt (n64 s) 64 ≠ 0 ∧ bt (n64 s) z.toInt.toNat = 1 ∧ (cnt (n64 s) z.toInt.toNat : Int) = x.toInt % (cnt (n64 s) 64 : Int)))) (0, am_entry 100 [.long s, .int x, .int a], []) w := by
  show aw none (d + 1) 100 _ (0, [some (.long s), none, some (.int x), some (.int a), none, none, none], []) w
  refine aw_step (f1 := (1, [some (.long s), none, some (.int x), some (.int a), none, none, none], [(.long s)])) (w1 := w) rfl rfl ?_
  refine s_cs (z := 188) (as := [(.long s)]) (st1 := []) 4 rfl rfl rfl rfl rfl rfl (Nat.le_of_ble_eq_true rfl) (Nat.le_of_ble_eq_true rfl) (Nat.le_of_ble_eq_true rfl) (q_bc64 s) ?_
  rintro _ _ ⟨rfl, x1, rfl, x1t⟩
  refine ⟨rfl, ?_⟩
  show aw none _ 100 _ (4, [some (.long s), none, some (.int x), some (.int a), none, none, none], [(.int x1)]) w
  have x1c := cnt_le (n64 s) 64
  refine aw_step (f1 := (6, [some (.long s), none, some (.int x), some (.int a), some (.int x1), none, none], [])) (w1 := w) rfl rfl ?_
  refine aw_step (f1 := (8, [some (.long s), none, some (.int x), some (.int a), some (.int x1), none, none], [(.int x1)])) (w1 := w) rfl rfl ?_
  refine s_if 13 11 rfl rfl rfl (fun (h2 : ¬ x1.toInt = 0) => ?_) (fun (h2 : ¬ (¬ x1.toInt = 0)) => ?_)
  · --
    refine aw_step (f1 := (14, [some (.long s), none, some (.int x), some (.int a), some (.int x1), none, none], [(.int x)])) (w1 := w) rfl rfl ?_
    refine aw_step (f1 := (16, [some (.long s), none, some (.int x), some (.int a), some (.int x1), none, none], [(.int x1), (.int x)])) (w1 := w) rfl rfl ?_
    refine s_dv (f := fun x y => x - x / y * y) 17 rfl rfl (by omega) fun x3 e4 => ?_
    have e4 : x3 = x - x / x1 * x1 := e4
    have e4t : x3.toInt = x.toInt % x1.toInt := by rw [e4]; exact n_rem (by omega) (by omega)
    refine aw_step (f1 := (19, [some (.long s), none, some (.int x), some (.int a), some (.int x1), some (.int x3), none], [])) (w1 := w) rfl rfl ?_
    refine s_i (pc1 := 20) (ls1 := [some (.long s), none, some (.int x), some (.int a), some (.int x1), some (.int x3), none]) (st1 := []) rfl rfl fun x5 e6 => ?_
    have e6t : x5.toInt = 0 := by rw [e6]; rfl
    refine aw_step (f1 := (22, [some (.long s), none, some (.int x), some (.int a), some (.int x1), some (.int x3), some (.int x5)], [])) (w1 := w) rfl rfl ?_
    have hm0 := Int.emod_lt_of_pos x.toInt (b := (cnt (n64 s) 64 : Int)) (by omega)
    have hm1 := Int.emod_nonneg x.toInt (b := (cnt (n64 s) 64 : Int)) (by omega)
    have le : x3.toInt = x.toInt % (cnt (n64 s) 64 : Int) := by rw [← show x1.toInt = (cnt (n64 s) 64 : Int) by omega]; omega
    exact e_drL s x a x1 hs (by omega) (by omega) hm0 37 x3 x5 (by omega) (by omega) (by omega) (by omega) (by rw [show x5.toInt.toNat = 0 by omega]; show _ + ((0 : Nat) : Int) = _; omega)
  · --
    refine aw_step (f1 := (12, [some (.long s), none, some (.int x), some (.int a), some (.int x1), none, none], [(.int a)])) (w1 := w) rfl rfl ?_
    refine aw_ret (v := some (.int a)) rfl rfl ?_
    exact ⟨rfl, a, rfl, ha, Or.inl ⟨by omega, rfl⟩⟩
theorem e_yrL {d : Nat} {w : am_W} {V : Nat → Int} (R : RCs w 3 V) (hh : 0 ≤ V 2 ∧ V 2 < szV V) (b sd n wh : Int32) (hb : 0 ≤ b.toInt ∧ b.toInt ≤ 3) (hsd : 0 ≤ sd.toInt ∧ sd.toInt ≤ 9999) (hn : 1 ≤ n.toInt ∧ n.toInt ≤ 99) (hwh : 0 ≤ wh.toInt ∧ wh.toInt ≤ 2) (I : ab_inv ab_TT ab_sets w) (J : ab_J ab_TT ab_sets ab_WR w w) : ∀ (m : Nat) (x c : Int32) (bn : Int64) (h i : Int32), (n.toInt - i.toInt).toNat < m → 0 ≤ i.toInt → i.toInt ≤ n.toInt → (0 ≤ x.toInt ∧ x.toInt ≤ 65536) → (0 ≤ c.toInt ∧ c.toInt < szV V) → (0 ≤ h.toInt ∧ h.toInt ≤ i.toInt) → yW V (V (8 + 4 * b.toInt.toNat + 0)) sd.toInt i.toInt.toNat x.toInt c.toInt.toNat (n64 bn) h.toInt → aw none (d + 3) 92 (fun r w1 => ab_J ab_TT ab_sets ab_WR w w1 ∧ ∃ z : Int32, r = some (.int z) ∧ yerP V b.toInt sd.toInt n.toInt wh.toInt z.toInt) (68, [some (.ref 0), some (.int b), some (.int sd), some (.int n), some (.int wh), some (.int x), some (.int c), some (.long bn), none, some (.int h), some (.int i)], []) w := by
  have szc := szC_in I
  have hsz := R.sz
  have r2 := R.f2
  intro m
  induction m with
  | zero => intro x c bn h i p; omega
  | succ m ih =>
    intro x c bn h i p1 p2 p3 p4 p5 p6 F
    refine aw_step (f1 := (70, [some (.ref 0), some (.int b), some (.int sd), some (.int n), some (.int wh), some (.int x), some (.int c), some (.long bn), none, some (.int h), some (.int i)], [(.int i)])) (w1 := w) rfl rfl ?_
    refine aw_step (f1 := (71, [some (.ref 0), some (.int b), some (.int sd), some (.int n), some (.int wh), some (.int x), some (.int c), some (.long bn), none, some (.int h), some (.int i)], [(.int n), (.int i)])) (w1 := w) rfl rfl ?_
    refine s_ic 153 74 rfl rfl rfl (fun (h1 : n.toInt ≤ i.toInt) => ?_) (fun (h1 : ¬ (n.toInt ≤ i.toInt)) => ?_)
    · --
      refine aw_step (f1 := (155, [some (.ref 0), some (.int b), some (.int sd), some (.int n), some (.int wh), some (.int x), some (.int c), some (.long bn), none, some (.int h), some (.int i)], [(.int wh)])) (w1 := w) rfl rfl ?_
      refine s_if 161 158 rfl rfl rfl (fun (h2 : ¬ wh.toInt = 0) => ?_) (fun (h2 : ¬ (¬ wh.toInt = 0)) => ?_)
      · --
        refine aw_step (f1 := (163, [some (.ref 0), some (.int b), some (.int sd), some (.int n), some (.int wh), some (.int x), some (.int c), some (.long bn), none, some (.int h), some (.int i)], [(.int wh)])) (w1 := w) rfl rfl ?_
        refine s_i (pc1 := 164) (ls1 := [some (.ref 0), some (.int b), some (.int sd), some (.int n), some (.int wh), some (.int x), some (.int c), some (.long bn), none, some (.int h), some (.int i)]) (st1 := [(.int wh)]) rfl rfl fun x3 e4 => ?_
        have e4t : x3.toInt = 1 := by rw [e4]; rfl
        refine s_ic 175 167 rfl rfl rfl (fun (h5 : ¬ wh.toInt = x3.toInt) => ?_) (fun (h5 : ¬ (¬ wh.toInt = x3.toInt)) => ?_)
        · --
          refine aw_step (f1 := (177, [some (.ref 0), some (.int b), some (.int sd), some (.int n), some (.int wh), some (.int x), some (.int c), some (.long bn), none, some (.int h), some (.int i)], [(.int h)])) (w1 := w) rfl rfl ?_
          refine aw_ret (v := some (.int h)) rfl rfl ?_
          rw [show i.toInt.toNat = n.toInt.toNat by omega] at F
          first
            | exact ⟨J, h, rfl, Or.inr (Or.inr ⟨⟨by omega, by omega⟩, ⟨by omega, by omega⟩, ⟨by omega, by omega⟩, ⟨by omega, by omega⟩, _, _, _, _, F, Or.inl ⟨by omega, by omega⟩⟩)⟩
            | exact ⟨J, h, rfl, Or.inr (Or.inr ⟨⟨by omega, by omega⟩, ⟨by omega, by omega⟩, ⟨by omega, by omega⟩, ⟨by omega, by omega⟩, _, _, _, _, F, Or.inr (Or.inl ⟨by omega, by omega⟩)⟩)⟩
            | exact ⟨J, h, rfl, Or.inr (Or.inr ⟨⟨by omega, by omega⟩, ⟨by omega, by omega⟩, ⟨by omega, by omega⟩, ⟨by omega, by omega⟩, _, _, _, _, F, Or.inr (Or.inr ⟨by omega, by omega⟩)⟩)⟩
        · --
          refine aw_step (f1 := (169, [some (.ref 0), some (.int b), some (.int sd), some (.int n), some (.int wh), some (.int x), some (.int c), some (.long bn), none, some (.int h), some (.int i)], [(.long bn)])) (w1 := w) rfl rfl ?_
          refine s_cs (z := 188) (as := [(.long bn)]) (st1 := []) 172 rfl rfl rfl rfl rfl rfl (Nat.le_of_ble_eq_true rfl) (Nat.le_of_ble_eq_true rfl) (Nat.le_of_ble_eq_true rfl) (q_bc64 bn) ?_
          rintro _ _ ⟨rfl, x6, rfl, x6t⟩
          refine ⟨rfl, ?_⟩
          show aw none _ 92 _ (172, [some (.ref 0), some (.int b), some (.int sd), some (.int n), some (.int wh), some (.int x), some (.int c), some (.long bn), none, some (.int h), some (.int i)], [(.int x6)]) w
          have x6c := cnt_le (n64 bn) 64
          refine aw_step (f1 := (177, [some (.ref 0), some (.int b), some (.int sd), some (.int n), some (.int wh), some (.int x), some (.int c), some (.long bn), none, some (.int h), some (.int i)], [(.int x6)])) (w1 := w) rfl rfl ?_
          refine aw_ret (v := some (.int x6)) rfl rfl ?_
          rw [show i.toInt.toNat = n.toInt.toNat by omega] at F
          first
            | exact ⟨J, x6, rfl, Or.inr (Or.inr ⟨⟨by omega, by omega⟩, ⟨by omega, by omega⟩, ⟨by omega, by omega⟩, ⟨by omega, by omega⟩, _, _, _, _, F, Or.inl ⟨by omega, by omega⟩⟩)⟩
            | exact ⟨J, x6, rfl, Or.inr (Or.inr ⟨⟨by omega, by omega⟩, ⟨by omega, by omega⟩, ⟨by omega, by omega⟩, ⟨by omega, by omega⟩, _, _, _, _, F, Or.inr (Or.inl ⟨by omega, by omega⟩)⟩)⟩
            | exact ⟨J, x6, rfl, Or.inr (Or.inr ⟨⟨by omega, by omega⟩, ⟨by omega, by omega⟩, ⟨by omega, by omega⟩, ⟨by omega, by omega⟩, _, _, _, _, F, Or.inr (Or.inr ⟨by omega, by omega⟩)⟩)⟩
      · --
        refine aw_step (f1 := (160, [some (.ref 0), some (.int b), some (.int sd), some (.int n), some (.int wh), some (.int x), some (.int c), some (.long bn), none, some (.int h), some (.int i)], [(.int c)])) (w1 := w) rfl rfl ?_
        refine aw_ret (v := some (.int c)) rfl rfl ?_
        rw [show i.toInt.toNat = n.toInt.toNat by omega] at F
        first
          | exact ⟨J, c, rfl, Or.inr (Or.inr ⟨⟨by omega, by omega⟩, ⟨by omega, by omega⟩, ⟨by omega, by omega⟩, ⟨by omega, by omega⟩, _, _, _, _, F, Or.inl ⟨by omega, by omega⟩⟩)⟩
          | exact ⟨J, c, rfl, Or.inr (Or.inr ⟨⟨by omega, by omega⟩, ⟨by omega, by omega⟩, ⟨by omega, by omega⟩, ⟨by omega, by omega⟩, _, _, _, _, F, Or.inr (Or.inl ⟨by omega, by omega⟩)⟩)⟩
          | exact ⟨J, c, rfl, Or.inr (Or.inr ⟨⟨by omega, by omega⟩, ⟨by omega, by omega⟩, ⟨by omega, by omega⟩, ⟨by omega, by omega⟩, _, _, _, _, F, Or.inr (Or.inr ⟨by omega, by omega⟩)⟩)⟩
    · --
      refine s_i (pc1 := 76) (ls1 := [some (.ref 0), some (.int b), some (.int sd), some (.int n), some (.int wh), some (.int x), some (.int c), some (.long bn), none, some (.int h), some (.int i)]) (st1 := []) rfl rfl fun x7 e8 => ?_
      have e8t : x7.toInt = 75 := by rw [e8]; rfl
      refine aw_step (f1 := (78, [some (.ref 0), some (.int b), some (.int sd), some (.int n), some (.int wh), some (.int x), some (.int c), some (.long bn), none, some (.int h), some (.int i)], [(.int x), (.int x7)])) (w1 := w) rfl rfl ?_
      refine s_i (pc1 := 79) (ls1 := [some (.ref 0), some (.int b), some (.int sd), some (.int n), some (.int wh), some (.int x), some (.int c), some (.long bn), none, some (.int h), some (.int i)]) (st1 := []) rfl rfl fun x9 e10 => ?_
      have e10 : x9 = x7 * x := e10
      have e10t : x9.toInt = 75 * x.toInt := by rw [e10, n_mul (by rw [e8t]; omega) (by rw [e8t]; omega), e8t]
      refine s_i (pc1 := 81) (ls1 := [some (.ref 0), some (.int b), some (.int sd), some (.int n), some (.int wh), some (.int x), some (.int c), some (.long bn), none, some (.int h), some (.int i)]) (st1 := [(.int x9)]) rfl rfl fun x11 e12 => ?_
      have e12t : x11.toInt = 74 := by rw [e12]; rfl
      refine s_i (pc1 := 82) (ls1 := [some (.ref 0), some (.int b), some (.int sd), some (.int n), some (.int wh), some (.int x), some (.int c), some (.long bn), none, some (.int h), some (.int i)]) (st1 := []) rfl rfl fun x13 e14 => ?_
      have e14 : x13 = x9 + x11 := e14
      have e14t : x13.toInt = x9.toInt + x11.toInt := by rw [e14]; exact n_add (by omega) (by omega)
      refine s_i (pc1 := 85) (ls1 := [some (.ref 0), some (.int b), some (.int sd), some (.int n), some (.int wh), some (.int x), some (.int c), some (.long bn), none, some (.int h), some (.int i)]) (st1 := [(.int x13)]) rfl rfl fun x15 e16 => ?_
      have e16t : x15.toInt = 65537 := by rw [e16]; rfl
      refine s_dv (f := fun x y => x - x / y * y) 86 rfl rfl (by omega) fun x17 e18 => ?_
      have e18 : x17 = x13 - x13 / x15 * x15 := e18
      have e18t : x17.toInt = x13.toInt % x15.toInt := by rw [e18]; exact n_rem (by omega) (by omega)
      rw [e16t] at e18t
      refine aw_step (f1 := (88, [some (.ref 0), some (.int b), some (.int sd), some (.int n), some (.int wh), some (.int x17), some (.int c), some (.long bn), none, some (.int h), some (.int i)], [])) (w1 := w) rfl rfl ?_
      refine aw_step (f1 := (89, [some (.ref 0), some (.int b), some (.int sd), some (.int n), some (.int wh), some (.int x17), some (.int c), some (.long bn), none, some (.int h), some (.int i)], [(.ref 0)])) (w1 := w) rfl rfl ?_
      refine s_gr 3 J 92 rfl rfl rfl rfl rfl rfl ?_
      refine aw_step (f1 := (93, [some (.ref 0), some (.int b), some (.int sd), some (.int n), some (.int wh), some (.int x17), some (.int c), some (.long bn), none, some (.int h), some (.int i)], [(.ref 0), (.ref 3)])) (w1 := w) rfl rfl ?_
      refine s_gr 3 J 96 rfl rfl rfl rfl rfl rfl ?_
      refine s_gr 7 J 99 rfl rfl rfl rfl rfl rfl ?_
      refine aw_step (f1 := (100, [some (.ref 0), some (.int b), some (.int sd), some (.int n), some (.int wh), some (.int x17), some (.int c), some (.long bn), none, some (.int h), some (.int i)], [(.int b), (.ref 7), (.ref 3)])) (w1 := w) rfl rfl ?_
      refine s_ia J 101 rfl rfl rfl rfl (by omega) (by omega) fun x19 x19a x19b x19f => ?_
      have x19v : x19.toInt = rI w 7 b.toInt.toNat := by rw [← rI_of x19f]
      have hl : x19.toInt = V (8 + 4 * b.toInt.toNat + 0) := by rw [x19v]; exact R.rv (r := 4) (i := b.toInt.toNat) (by decide) (by decide) (by omega) (by show b.toInt.toNat < 4; omega)
      refine aw_step (f1 := (103, [some (.ref 0), some (.int b), some (.int sd), some (.int n), some (.int wh), some (.int x17), some (.int c), some (.long bn), none, some (.int h), some (.int i)], [(.int c), (.int x19), (.ref 3)])) (w1 := w) rfl rfl ?_
      refine s_cv (z := 44) (p := 3) (as := [(.int x19), (.int c)]) (st1 := []) J 106 rfl rfl rfl rfl rfl rfl rfl rfl (Nat.le_of_ble_eq_true rfl) (Nat.le_of_ble_eq_true rfl) (e_reach R x19 c ⟨by omega, by omega⟩ ⟨by omega, by omega⟩ J.1) ?_
      rintro _ _ ⟨rfl, y20, rfl, y20t⟩
      refine ⟨rfl, ?_⟩
      show aw none _ 92 _ (106, [some (.ref 0), some (.int b), some (.int sd), some (.int n), some (.int wh), some (.int x17), some (.int c), some (.long bn), none, some (.int h), some (.int i)], [(.long y20)]) w
      have ls : lsV V (V (8 + 4 * b.toInt.toNat + 0)) (c.toInt.toNat : Nat) (n64 y20) := by
        have q := y20t
        rw [hl, ← show ((c.toInt.toNat : Nat) : Int) = c.toInt by omega] at q
        exact q
      have hs64 : cnt (n64 y20) 64 = cnt (n64 y20) 36 := lsV_64 ls (by omega) 28
      refine aw_step (f1 := (108, [some (.ref 0), some (.int b), some (.int sd), some (.int n), some (.int wh), some (.int x17), some (.int c), some (.long bn), none, some (.int h), some (.int i)], [(.int x17), (.long y20)])) (w1 := w) rfl rfl ?_
      refine aw_step (f1 := (110, [some (.ref 0), some (.int b), some (.int sd), some (.int n), some (.int wh), some (.int x17), some (.int c), some (.long bn), none, some (.int h), some (.int i)], [(.int c), (.int x17), (.long y20)])) (w1 := w) rfl rfl ?_
      refine s_cs (z := 100) (as := [(.long y20), (.int x17), (.int c)]) (st1 := []) 113 rfl rfl rfl rfl rfl rfl (Nat.le_of_ble_eq_true rfl) (Nat.le_of_ble_eq_true rfl) (Nat.le_of_ble_eq_true rfl) (e_drawn y20 x17 c hs64 (by omega) (by omega)) ?_
      rintro _ _ ⟨rfl, x21, rfl, x21a, x21t⟩
      refine ⟨rfl, ?_⟩
      show aw none _ 92 _ (113, [some (.ref 0), some (.int b), some (.int sd), some (.int n), some (.int wh), some (.int x17), some (.int c), some (.long bn), none, some (.int h), some (.int i)], [(.int x21)]) w
      refine aw_step (f1 := (115, [some (.ref 0), some (.int b), some (.int sd), some (.int n), some (.int wh), some (.int x17), some (.int x21), some (.long bn), none, some (.int h), some (.int i)], [])) (w1 := w) rfl rfl ?_
      have dp : drP V (V (8 + 4 * b.toInt.toNat + 0)) c.toInt.toNat x17.toInt x21.toInt.toNat := ⟨n64 y20, ls, by
        rcases x21t with q | q
        · exact Or.inl ⟨q.1, by omega⟩
        · exact Or.inr q⟩
      have zb : x21.toInt < szV V := by
        rcases x21t with q | q
        · omega
        · have := ((ls x21.toInt.toNat).mp q.2.1).1.1
          omega
      refine aw_step (f1 := (117, [some (.ref 0), some (.int b), some (.int sd), some (.int n), some (.int wh), some (.int x17), some (.int x21), some (.long bn), none, some (.int h), some (.int i)], [(.long bn)])) (w1 := w) rfl rfl ?_
      refine aw_step (f1 := (119, [some (.ref 0), some (.int b), some (.int sd), some (.int n), some (.int wh), some (.int x17), some (.int x21), some (.long bn), none, some (.int h), some (.int i)], [(.int x21), (.long bn)])) (w1 := w) rfl rfl ?_
      refine s_cs (z := 104) (as := [(.int x21)]) (st1 := [(.long bn)]) 122 rfl rfl rfl rfl rfl rfl (Nat.le_of_ble_eq_true rfl) (Nat.le_of_ble_eq_true rfl) (Nat.le_of_ble_eq_true rfl) (q_bit x21) ?_
      rintro _ _ ⟨rfl, y22, rfl, y22e⟩
      refine ⟨rfl, ?_⟩
      show aw none _ 92 _ (122, [some (.ref 0), some (.int b), some (.int sd), some (.int n), some (.int wh), some (.int x17), some (.int x21), some (.long bn), none, some (.int h), some (.int i)], [(.long y22), (.long bn)]) w
      have y22b : n64 y22 = 2 ^ x21.toInt.toNat := by rw [y22e]; exact n64_shl (by omega) (by omega) rfl
      --
      refine s_l (pc1 := 123) (ls1 := [some (.ref 0), some (.int b), some (.int sd), some (.int n), some (.int wh), some (.int x17), some (.int x21), some (.long bn), none, some (.int h), some (.int i)]) (st1 := []) rfl rfl fun y23 e24 => ?_
      have e24 : y23 = bn ||| y22 := e24
      refine aw_step (f1 := (125, [some (.ref 0), some (.int b), some (.int sd), some (.int n), some (.int wh), some (.int x17), some (.int x21), some (.long y23), none, some (.int h), some (.int i)], [])) (w1 := w) rfl rfl ?_
      refine aw_step (f1 := (127, [some (.ref 0), some (.int b), some (.int sd), some (.int n), some (.int wh), some (.int x17), some (.int x21), some (.long y23), none, some (.int h), some (.int i)], [(.int h)])) (w1 := w) rfl rfl ?_
      refine aw_step (f1 := (129, [some (.ref 0), some (.int b), some (.int sd), some (.int n), some (.int wh), some (.int x17), some (.int x21), some (.long y23), none, some (.int h), some (.int i)], [(.int x21), (.int h)])) (w1 := w) rfl rfl ?_
      refine aw_step (f1 := (130, [some (.ref 0), some (.int b), some (.int sd), some (.int n), some (.int wh), some (.int x17), some (.int x21), some (.long y23), none, some (.int h), some (.int i)], [(.ref 0), (.int x21), (.int h)])) (w1 := w) rfl rfl ?_
      refine s_gr 3 J 133 rfl rfl rfl rfl rfl rfl ?_
      refine s_gi J 136 rfl rfl rfl rfl rfl rfl fun x25 x25a x25b x25f => ?_
      have x25v : x25.toInt = fI w 3 2 := by rw [← fI_of x25f]
      refine s_ic 143 139 rfl rfl rfl (fun (h26 : ¬ x21.toInt = x25.toInt) => ?_) (fun (h26 : ¬ (¬ x21.toInt = x25.toInt)) => ?_)
      · --
        refine s_i (pc1 := 144) (ls1 := [some (.ref 0), some (.int b), some (.int sd), some (.int n), some (.int wh), some (.int x17), some (.int x21), some (.long y23), none, some (.int h), some (.int i)]) (st1 := [(.int h)]) rfl rfl fun x27 e28 => ?_
        have e28t : x27.toInt = 0 := by rw [e28]; rfl
        refine s_i (pc1 := 145) (ls1 := [some (.ref 0), some (.int b), some (.int sd), some (.int n), some (.int wh), some (.int x17), some (.int x21), some (.long y23), none, some (.int h), some (.int i)]) (st1 := []) rfl rfl fun x29 e30 => ?_
        have e30 : x29 = h + x27 := e30
        have e30t : x29.toInt = h.toInt + x27.toInt := by rw [e30]; exact n_add (by omega) (by omega)
        refine aw_step (f1 := (147, [some (.ref 0), some (.int b), some (.int sd), some (.int n), some (.int wh), some (.int x17), some (.int x21), some (.long y23), none, some (.int x29), some (.int i)], [])) (w1 := w) rfl rfl ?_
        refine aw_step (f1 := (150, [some (.ref 0), some (.int b), some (.int sd), some (.int n), some (.int wh), some (.int x17), some (.int x21), some (.long y23), none, some (.int x29), some (.int (i + Int32.ofInt 1))], [])) (w1 := w) rfl rfl ?_
        obtain ⟨x31, x31e⟩ : ∃ z, z = (i + Int32.ofInt 1) := ⟨_, rfl⟩
        have x31t : x31.toInt = i.toInt + (1) := by rw [x31e]; exact n_add (y := Int32.ofInt (1)) (by show _ ≤ _ + (1 : Int); omega) (by show _ + (1 : Int) ≤ _; omega)
        rw [← x31e]
        refine aw_step (f1 := (68, [some (.ref 0), some (.int b), some (.int sd), some (.int n), some (.int wh), some (.int x17), some (.int x21), some (.long y23), none, some (.int x29), some (.int x31)], [])) (w1 := w) rfl rfl ?_
        refine ih x17 x21 y23 x29 x31 (by omega) (by omega) (by omega) (by omega) ⟨by omega, by omega⟩ (by omega) ?_
        rw [show x31.toInt.toNat = i.toInt.toNat + 1 by omega]
        refine ⟨x.toInt, c.toInt.toNat, n64 bn, h.toInt, F, by omega, dp, by rw [e24, n64_or, y22b], ?_⟩
        first
          | (rw [if_pos (by omega)]; omega)
          | (rw [if_neg (by omega)]; omega)
      · --
        refine s_i (pc1 := 140) (ls1 := [some (.ref 0), some (.int b), some (.int sd), some (.int n), some (.int wh), some (.int x17), some (.int x21), some (.long y23), none, some (.int h), some (.int i)]) (st1 := [(.int h)]) rfl rfl fun x32 e33 => ?_
        have e33t : x32.toInt = 1 := by rw [e33]; rfl
        refine aw_step (f1 := (144, [some (.ref 0), some (.int b), some (.int sd), some (.int n), some (.int wh), some (.int x17), some (.int x21), some (.long y23), none, some (.int h), some (.int i)], [(.int x32), (.int h)])) (w1 := w) rfl rfl ?_
        refine s_i (pc1 := 145) (ls1 := [some (.ref 0), some (.int b), some (.int sd), some (.int n), some (.int wh), some (.int x17), some (.int x21), some (.long y23), none, some (.int h), some (.int i)]) (st1 := []) rfl rfl fun x34 e35 => ?_
        have e35 : x34 = h + x32 := e35
        have e35t : x34.toInt = h.toInt + x32.toInt := by rw [e35]; exact n_add (by omega) (by omega)
        refine aw_step (f1 := (147, [some (.ref 0), some (.int b), some (.int sd), some (.int n), some (.int wh), some (.int x17), some (.int x21), some (.long y23), none, some (.int x34), some (.int i)], [])) (w1 := w) rfl rfl ?_
        refine aw_step (f1 := (150, [some (.ref 0), some (.int b), some (.int sd), some (.int n), some (.int wh), some (.int x17), some (.int x21), some (.long y23), none, some (.int x34), some (.int (i + Int32.ofInt 1))], [])) (w1 := w) rfl rfl ?_
        obtain ⟨x36, x36e⟩ : ∃ z, z = (i + Int32.ofInt 1) := ⟨_, rfl⟩
        have x36t : x36.toInt = i.toInt + (1) := by rw [x36e]; exact n_add (y := Int32.ofInt (1)) (by show _ ≤ _ + (1 : Int); omega) (by show _ + (1 : Int) ≤ _; omega)
        rw [← x36e]
        refine aw_step (f1 := (68, [some (.ref 0), some (.int b), some (.int sd), some (.int n), some (.int wh), some (.int x17), some (.int x21), some (.long y23), none, some (.int x34), some (.int x36)], [])) (w1 := w) rfl rfl ?_
        refine ih x17 x21 y23 x34 x36 (by omega) (by omega) (by omega) (by omega) ⟨by omega, by omega⟩ (by omega) ?_
        rw [show x36.toInt.toNat = i.toInt.toNat + 1 by omega]
        refine ⟨x.toInt, c.toInt.toNat, n64 bn, h.toInt, F, by omega, dp, by rw [e24, n64_or, y22b], ?_⟩
        first
          | (rw [if_pos (by omega)]; omega)
          | (rw [if_neg (by omega)]; omega)
theorem e_year {d : Nat} {w : am_W} {V : Nat → Int} (R : RCs w 3 V) (hh : 0 ≤ V 2 ∧ V 2 < szV V) (b sd n wh : Int32) (I : ab_inv ab_TT ab_sets w) : aw none (d + 3) 92 (fun r w1 => ab_J ab_TT ab_sets ab_WR w w1 ∧ ∃ z : Int32, r = some (.int z) ∧ yerP V b.toInt sd.toInt n.toInt wh.toInt z.toInt) (0, am_entry 92 [.ref 0, .int b, .int sd, .int n, .int wh], []) w := by
  have J : ab_J ab_TT ab_sets ab_WR w w := ⟨I, ab_fr.rf⟩
  have szc := szC_in I
  have hsz := R.sz
  have r2 := R.f2
  show aw none (d + 3) 92 _ (0, [some (.ref 0), some (.int b), some (.int sd), some (.int n), some (.int wh), none, none, none, none, none, none], []) w
  refine aw_step (f1 := (1, [some (.ref 0), some (.int b), some (.int sd), some (.int n), some (.int wh), none, none, none, none, none, none], [(.int b)])) (w1 := w) rfl rfl ?_
  refine s_cs (z := 103) (as := [(.int b)]) (st1 := []) 4 rfl rfl rfl rfl rfl rfl (Nat.le_of_ble_eq_true rfl) (Nat.le_of_ble_eq_true rfl) (Nat.le_of_ble_eq_true rfl) (q_isBoots b) ?_
  rintro _ _ ⟨rfl, x1, rfl, x1t⟩
  refine ⟨rfl, ?_⟩
  show aw none _ 92 _ (4, [some (.ref 0), some (.int b), some (.int sd), some (.int n), some (.int wh), none, none, none, none, none, none], [(.int x1)]) w
  refine s_if 9 7 rfl rfl rfl (fun (h2 : ¬ x1.toInt = 0) => ?_) (fun (h2 : ¬ (¬ x1.toInt = 0)) => ?_)
  · --
    refine aw_step (f1 := (10, [some (.ref 0), some (.int b), some (.int sd), some (.int n), some (.int wh), none, none, none, none, none, none], [(.int sd)])) (w1 := w) rfl rfl ?_
    refine s_i (pc1 := 11) (ls1 := [some (.ref 0), some (.int b), some (.int sd), some (.int n), some (.int wh), none, none, none, none, none, none]) (st1 := [(.int sd)]) rfl rfl fun x3 e4 => ?_
    have e4t : x3.toInt = 0 := by rw [e4]; rfl
    refine s_i (pc1 := 14) (ls1 := [some (.ref 0), some (.int b), some (.int sd), some (.int n), some (.int wh), none, none, none, none, none, none]) (st1 := [(.int x3), (.int sd)]) rfl rfl fun x5 e6 => ?_
    have e6t : x5.toInt = 9999 := by rw [e6]; rfl
    refine s_cs (z := 102) (as := [(.int sd), (.int x3), (.int x5)]) (st1 := []) 17 rfl rfl rfl rfl rfl rfl (Nat.le_of_ble_eq_true rfl) (Nat.le_of_ble_eq_true rfl) (Nat.le_of_ble_eq_true rfl) (q_within sd x3 x5) ?_
    rintro _ _ ⟨rfl, x7, rfl, x7t⟩
    refine ⟨rfl, ?_⟩
    show aw none _ 92 _ (17, [some (.ref 0), some (.int b), some (.int sd), some (.int n), some (.int wh), none, none, none, none, none, none], [(.int x7)]) w
    refine s_if 40 20 rfl rfl rfl (fun (h8 : x7.toInt = 0) => ?_) (fun (h8 : ¬ (x7.toInt = 0)) => ?_)
    · --
      refine s_i (pc1 := 42) (ls1 := [some (.ref 0), some (.int b), some (.int sd), some (.int n), some (.int wh), none, none, none, none, none, none]) (st1 := []) rfl rfl fun x9 e10 => ?_
      have e10t : x9.toInt = -2 := by rw [e10]; rfl
      refine aw_ret (v := some (.int x9)) rfl rfl ?_
      first
        | exact ⟨J, x9, rfl, Or.inl ⟨by omega, by omega⟩⟩
        | exact ⟨J, x9, rfl, Or.inr (Or.inl ⟨by omega, ⟨by omega, by omega⟩, by omega⟩)⟩
    · --
      refine aw_step (f1 := (21, [some (.ref 0), some (.int b), some (.int sd), some (.int n), some (.int wh), none, none, none, none, none, none], [(.int n)])) (w1 := w) rfl rfl ?_
      refine s_i (pc1 := 22) (ls1 := [some (.ref 0), some (.int b), some (.int sd), some (.int n), some (.int wh), none, none, none, none, none, none]) (st1 := [(.int n)]) rfl rfl fun x11 e12 => ?_
      have e12t : x11.toInt = 1 := by rw [e12]; rfl
      refine s_i (pc1 := 24) (ls1 := [some (.ref 0), some (.int b), some (.int sd), some (.int n), some (.int wh), none, none, none, none, none, none]) (st1 := [(.int x11), (.int n)]) rfl rfl fun x13 e14 => ?_
      have e14t : x13.toInt = 99 := by rw [e14]; rfl
      refine s_cs (z := 102) (as := [(.int n), (.int x11), (.int x13)]) (st1 := []) 27 rfl rfl rfl rfl rfl rfl (Nat.le_of_ble_eq_true rfl) (Nat.le_of_ble_eq_true rfl) (Nat.le_of_ble_eq_true rfl) (q_within n x11 x13) ?_
      rintro _ _ ⟨rfl, x15, rfl, x15t⟩
      refine ⟨rfl, ?_⟩
      show aw none _ 92 _ (27, [some (.ref 0), some (.int b), some (.int sd), some (.int n), some (.int wh), none, none, none, none, none, none], [(.int x15)]) w
      refine s_if 40 30 rfl rfl rfl (fun (h16 : x15.toInt = 0) => ?_) (fun (h16 : ¬ (x15.toInt = 0)) => ?_)
      · --
        refine s_i (pc1 := 42) (ls1 := [some (.ref 0), some (.int b), some (.int sd), some (.int n), some (.int wh), none, none, none, none, none, none]) (st1 := []) rfl rfl fun x17 e18 => ?_
        have e18t : x17.toInt = -2 := by rw [e18]; rfl
        refine aw_ret (v := some (.int x17)) rfl rfl ?_
        first
          | exact ⟨J, x17, rfl, Or.inl ⟨by omega, by omega⟩⟩
          | exact ⟨J, x17, rfl, Or.inr (Or.inl ⟨by omega, ⟨by omega, by omega⟩, by omega⟩)⟩
      · --
        refine aw_step (f1 := (32, [some (.ref 0), some (.int b), some (.int sd), some (.int n), some (.int wh), none, none, none, none, none, none], [(.int wh)])) (w1 := w) rfl rfl ?_
        refine s_i (pc1 := 33) (ls1 := [some (.ref 0), some (.int b), some (.int sd), some (.int n), some (.int wh), none, none, none, none, none, none]) (st1 := [(.int wh)]) rfl rfl fun x19 e20 => ?_
        have e20t : x19.toInt = 0 := by rw [e20]; rfl
        refine s_i (pc1 := 34) (ls1 := [some (.ref 0), some (.int b), some (.int sd), some (.int n), some (.int wh), none, none, none, none, none, none]) (st1 := [(.int x19), (.int wh)]) rfl rfl fun x21 e22 => ?_
        have e22t : x21.toInt = 2 := by rw [e22]; rfl
        refine s_cs (z := 102) (as := [(.int wh), (.int x19), (.int x21)]) (st1 := []) 37 rfl rfl rfl rfl rfl rfl (Nat.le_of_ble_eq_true rfl) (Nat.le_of_ble_eq_true rfl) (Nat.le_of_ble_eq_true rfl) (q_within wh x19 x21) ?_
        rintro _ _ ⟨rfl, x23, rfl, x23t⟩
        refine ⟨rfl, ?_⟩
        show aw none _ 92 _ (37, [some (.ref 0), some (.int b), some (.int sd), some (.int n), some (.int wh), none, none, none, none, none, none], [(.int x23)]) w
        refine s_if 43 40 rfl rfl rfl (fun (h24 : ¬ x23.toInt = 0) => ?_) (fun (h24 : ¬ (¬ x23.toInt = 0)) => ?_)
        · --
          refine aw_step (f1 := (44, [some (.ref 0), some (.int b), some (.int sd), some (.int n), some (.int wh), none, none, none, none, none, none], [(.int sd)])) (w1 := w) rfl rfl ?_
          refine aw_step (f1 := (46, [some (.ref 0), some (.int b), some (.int sd), some (.int n), some (.int wh), some (.int sd), none, none, none, none, none], [])) (w1 := w) rfl rfl ?_
          refine aw_step (f1 := (47, [some (.ref 0), some (.int b), some (.int sd), some (.int n), some (.int wh), some (.int sd), none, none, none, none, none], [(.ref 0)])) (w1 := w) rfl rfl ?_
          refine s_gr 3 J 50 rfl rfl rfl rfl rfl rfl ?_
          refine s_gi J 53 rfl rfl rfl rfl rfl rfl fun x25 x25a x25b x25f => ?_
          have x25v : x25.toInt = fI w 3 2 := by rw [← fI_of x25f]
          refine aw_step (f1 := (55, [some (.ref 0), some (.int b), some (.int sd), some (.int n), some (.int wh), some (.int sd), some (.int x25), none, none, none, none], [])) (w1 := w) rfl rfl ?_
          refine aw_step (f1 := (57, [some (.ref 0), some (.int b), some (.int sd), some (.int n), some (.int wh), some (.int sd), some (.int x25), none, none, none, none], [(.int x25)])) (w1 := w) rfl rfl ?_
          refine s_cs (z := 104) (as := [(.int x25)]) (st1 := []) 60 rfl rfl rfl rfl rfl rfl (Nat.le_of_ble_eq_true rfl) (Nat.le_of_ble_eq_true rfl) (Nat.le_of_ble_eq_true rfl) (q_bit x25) ?_
          rintro _ _ ⟨rfl, y26, rfl, y26e⟩
          refine ⟨rfl, ?_⟩
          show aw none _ 92 _ (60, [some (.ref 0), some (.int b), some (.int sd), some (.int n), some (.int wh), some (.int sd), some (.int x25), none, none, none, none], [(.long y26)]) w
          have y26b : n64 y26 = 2 ^ x25.toInt.toNat := by rw [y26e]; exact n64_shl (by omega) (by omega) rfl
          refine aw_step (f1 := (62, [some (.ref 0), some (.int b), some (.int sd), some (.int n), some (.int wh), some (.int sd), some (.int x25), some (.long y26), none, none, none], [])) (w1 := w) rfl rfl ?_
          refine s_i (pc1 := 63) (ls1 := [some (.ref 0), some (.int b), some (.int sd), some (.int n), some (.int wh), some (.int sd), some (.int x25), some (.long y26), none, none, none]) (st1 := []) rfl rfl fun x27 e28 => ?_
          have e28t : x27.toInt = 0 := by rw [e28]; rfl
          refine aw_step (f1 := (65, [some (.ref 0), some (.int b), some (.int sd), some (.int n), some (.int wh), some (.int sd), some (.int x25), some (.long y26), none, some (.int x27), none], [])) (w1 := w) rfl rfl ?_
          refine s_i (pc1 := 66) (ls1 := [some (.ref 0), some (.int b), some (.int sd), some (.int n), some (.int wh), some (.int sd), some (.int x25), some (.long y26), none, some (.int x27), none]) (st1 := []) rfl rfl fun x29 e30 => ?_
          have e30t : x29.toInt = 0 := by rw [e30]; rfl
          refine aw_step (f1 := (68, [some (.ref 0), some (.int b), some (.int sd), some (.int n), some (.int wh), some (.int sd), some (.int x25), some (.long y26), none, some (.int x27), some (.int x29)], [])) (w1 := w) rfl rfl ?_
          exact e_yrL R hh b sd n wh ⟨by omega, by omega⟩ ⟨by omega, by omega⟩ ⟨by omega, by omega⟩ ⟨by omega, by omega⟩ I J 100 sd x25 y26 x27 x29 (by omega) (by omega) (by omega) ⟨by omega, by omega⟩ ⟨by omega, by omega⟩ ⟨by omega, by omega⟩ (by rw [show x29.toInt.toNat = 0 by omega]; exact ⟨rfl, by omega, by rw [y26b, show x25.toInt.toNat = (V 2).toNat by omega], by omega⟩)
        · --
          refine s_i (pc1 := 42) (ls1 := [some (.ref 0), some (.int b), some (.int sd), some (.int n), some (.int wh), none, none, none, none, none, none]) (st1 := []) rfl rfl fun x31 e32 => ?_
          have e32t : x31.toInt = -2 := by rw [e32]; rfl
          refine aw_ret (v := some (.int x31)) rfl rfl ?_
          first
            | exact ⟨J, x31, rfl, Or.inl ⟨by omega, by omega⟩⟩
            | exact ⟨J, x31, rfl, Or.inr (Or.inl ⟨by omega, ⟨by omega, by omega⟩, by omega⟩)⟩
  · --
    refine s_i (pc1 := 8) (ls1 := [some (.ref 0), some (.int b), some (.int sd), some (.int n), some (.int wh), none, none, none, none, none, none]) (st1 := []) rfl rfl fun x33 e34 => ?_
    have e34t : x33.toInt = -1 := by rw [e34]; rfl
    refine aw_ret (v := some (.int x33)) rfl rfl ?_
    first
      | exact ⟨J, x33, rfl, Or.inl ⟨by omega, by omega⟩⟩
      | exact ⟨J, x33, rfl, Or.inr (Or.inl ⟨by omega, ⟨by omega, by omega⟩, by omega⟩)⟩
theorem f_nthL {d : Nat} {w : am_W} (s : Int64) (i : Int32) (p0 : n64 s < 2 ^ 36) (pi : i.toInt < cnt (n64 s) 64) : ∀ (m : Nat) (l c : Int32), 64 - c.toInt.toNat < m → 0 ≤ c.toInt → 0 ≤ l.toInt → l.toInt + cnt (n64 s) c.toInt.toNat = i.toInt → aw none (d + 1) 178 (fun r w1 => w = w1 ∧ ∃ b : Int32, r = some (.int b) ∧ 0 ≤ b.toInt ∧ b.toInt < 36 ∧ bt (n64 s) b.toInt.toNat = 1 ∧ (cnt (n64 s) b.toInt.toNat : Int) = i.toInt) (6, [some (.ref 65), some (.long s), none, some (.int i), some (.int l), some (.int c)], []) w := by
  intro m
  induction m with
  | zero => intro l c p; omega
  | succ m ih =>
    intro l c p1 p2 p3 p4
    have pq := cnt_le (n64 s) 64
    have pb := bt_le (n64 s) c.toInt.toNat
    have pc : c.toInt < 64 := by
      apply Classical.byContradiction
      intro q
      have := cnt_mono (n64 s) (show 64 ≤ c.toInt.toNat by omega)
      omega
    refine aw_step (f1 := (7, [some (.ref 65), some (.long s), none, some (.int i), some (.int l), some (.int c)], [(.long s)])) (w1 := w) rfl rfl ?_
    refine aw_step (f1 := (9, [some (.ref 65), some (.long s), none, some (.int i), some (.int l), some (.int c)], [(.int c), (.long s)])) (w1 := w) rfl rfl ?_
    refine s_cs (z := 110) (as := [(.long s), (.int c)]) (st1 := []) 12 rfl rfl rfl rfl rfl rfl (Nat.le_of_ble_eq_true rfl) (Nat.le_of_ble_eq_true rfl) (Nat.le_of_ble_eq_true rfl) (q_has s c (by omega) (by omega)) ?_
    rintro _ _ ⟨rfl, x1, rfl, x1t⟩
    refine ⟨rfl, ?_⟩
    show aw none _ 178 _ (12, [some (.ref 65), some (.long s), none, some (.int i), some (.int l), some (.int c)], [(.int x1)]) w
    have x1l := bt_le (n64 s) c.toInt.toNat
    refine s_if 20 15 rfl rfl rfl (fun (h2 : x1.toInt = 0) => ?_) (fun (h2 : ¬ (x1.toInt = 0)) => ?_)
    · --
      refine aw_step (f1 := (22, [some (.ref 65), some (.long s), none, some (.int i), some (.int l), some (.int c)], [(.int l)])) (w1 := w) rfl rfl ?_
      refine aw_step (f1 := (23, [some (.ref 65), some (.long s), none, some (.int i), some (.int l), some (.int c)], [(.long s), (.int l)])) (w1 := w) rfl rfl ?_
      refine aw_step (f1 := (25, [some (.ref 65), some (.long s), none, some (.int i), some (.int l), some (.int c)], [(.int c), (.long s), (.int l)])) (w1 := w) rfl rfl ?_
      refine s_cs (z := 110) (as := [(.long s), (.int c)]) (st1 := [(.int l)]) 28 rfl rfl rfl rfl rfl rfl (Nat.le_of_ble_eq_true rfl) (Nat.le_of_ble_eq_true rfl) (Nat.le_of_ble_eq_true rfl) (q_has s c (by omega) (by omega)) ?_
      rintro _ _ ⟨rfl, x3, rfl, x3t⟩
      refine ⟨rfl, ?_⟩
      show aw none _ 178 _ (28, [some (.ref 65), some (.long s), none, some (.int i), some (.int l), some (.int c)], [(.int x3), (.int l)]) w
      have x3l := bt_le (n64 s) c.toInt.toNat
      refine s_if 35 31 rfl rfl rfl (fun (h4 : x3.toInt = 0) => ?_) (fun (h4 : ¬ (x3.toInt = 0)) => ?_)
      · --
        refine s_i (pc1 := 36) (ls1 := [some (.ref 65), some (.long s), none, some (.int i), some (.int l), some (.int c)]) (st1 := [(.int l)]) rfl rfl fun x5 e6 => ?_
        have e6t : x5.toInt = 0 := by rw [e6]; rfl
        refine s_i (pc1 := 37) (ls1 := [some (.ref 65), some (.long s), none, some (.int i), some (.int l), some (.int c)]) (st1 := []) rfl rfl fun x7 e8 => ?_
        have e8 : x7 = l - x5 := e8
        have e8t : x7.toInt = l.toInt - x5.toInt := by rw [e8]; exact n_sub (by omega) (by omega)
        refine aw_step (f1 := (39, [some (.ref 65), some (.long s), none, some (.int i), some (.int x7), some (.int c)], [])) (w1 := w) rfl rfl ?_
        refine aw_step (f1 := (42, [some (.ref 65), some (.long s), none, some (.int i), some (.int x7), some (.int (c + Int32.ofInt 1))], [])) (w1 := w) rfl rfl ?_
        obtain ⟨x9, x9e⟩ : ∃ z, z = (c + Int32.ofInt 1) := ⟨_, rfl⟩
        have x9t : x9.toInt = c.toInt + (1) := by rw [x9e]; exact n_add (y := Int32.ofInt (1)) (by show _ ≤ _ + (1 : Int); omega) (by show _ + (1 : Int) ≤ _; omega)
        rw [← x9e]
        refine aw_step (f1 := (6, [some (.ref 65), some (.long s), none, some (.int i), some (.int x7), some (.int x9)], [])) (w1 := w) rfl rfl ?_
        have st := bt_s (n64 s) c.toInt.toNat
        rw [show c.toInt.toNat + 1 = x9.toInt.toNat by omega] at st
        exact ih _ _ (by omega) (by omega) (by omega) (by omega)
      · --
        refine s_i (pc1 := 32) (ls1 := [some (.ref 65), some (.long s), none, some (.int i), some (.int l), some (.int c)]) (st1 := [(.int l)]) rfl rfl fun x10 e11 => ?_
        have e11t : x10.toInt = 1 := by rw [e11]; rfl
        refine aw_step (f1 := (36, [some (.ref 65), some (.long s), none, some (.int i), some (.int l), some (.int c)], [(.int x10), (.int l)])) (w1 := w) rfl rfl ?_
        refine s_i (pc1 := 37) (ls1 := [some (.ref 65), some (.long s), none, some (.int i), some (.int l), some (.int c)]) (st1 := []) rfl rfl fun x12 e13 => ?_
        have e13 : x12 = l - x10 := e13
        have e13t : x12.toInt = l.toInt - x10.toInt := by rw [e13]; exact n_sub (by omega) (by omega)
        refine aw_step (f1 := (39, [some (.ref 65), some (.long s), none, some (.int i), some (.int x12), some (.int c)], [])) (w1 := w) rfl rfl ?_
        refine aw_step (f1 := (42, [some (.ref 65), some (.long s), none, some (.int i), some (.int x12), some (.int (c + Int32.ofInt 1))], [])) (w1 := w) rfl rfl ?_
        obtain ⟨x14, x14e⟩ : ∃ z, z = (c + Int32.ofInt 1) := ⟨_, rfl⟩
        have x14t : x14.toInt = c.toInt + (1) := by rw [x14e]; exact n_add (y := Int32.ofInt (1)) (by show _ ≤ _ + (1 : Int); omega) (by show _ + (1 : Int) ≤ _; omega)
        rw [← x14e]
        refine aw_step (f1 := (6, [some (.ref 65), some (.long s), none, some (.int i), some (.int x12), some (.int x14)], [])) (w1 := w) rfl rfl ?_
        have st := bt_s (n64 s) c.toInt.toNat
        rw [show c.toInt.toNat + 1 = x14.toInt.toNat by omega] at st
        exact ih _ _ (by omega) (by omega) (by omega) (by omega)
    · --
      refine aw_step (f1 := (17, [some (.ref 65), some (.long s), none, some (.int i), some (.int l), some (.int c)], [(.int l)])) (w1 := w) rfl rfl ?_
      refine s_if 45 20 rfl rfl rfl (fun (h15 : l.toInt ≤ 0) => ?_) (fun (h15 : ¬ (l.toInt ≤ 0)) => ?_)
      · --
        refine aw_step (f1 := (47, [some (.ref 65), some (.long s), none, some (.int i), some (.int l), some (.int c)], [(.int c)])) (w1 := w) rfl rfl ?_
        refine aw_ret (v := some (.int c)) rfl rfl ?_
        exact ⟨rfl, c, rfl, by omega, by have := @bt_hi (n64 s) 36 c.toInt.toNat p0; omega, by omega, by omega⟩
      · --
        refine aw_step (f1 := (22, [some (.ref 65), some (.long s), none, some (.int i), some (.int l), some (.int c)], [(.int l)])) (w1 := w) rfl rfl ?_
        refine aw_step (f1 := (23, [some (.ref 65), some (.long s), none, some (.int i), some (.int l), some (.int c)], [(.long s), (.int l)])) (w1 := w) rfl rfl ?_
        refine aw_step (f1 := (25, [some (.ref 65), some (.long s), none, some (.int i), some (.int l), some (.int c)], [(.int c), (.long s), (.int l)])) (w1 := w) rfl rfl ?_
        refine s_cs (z := 110) (as := [(.long s), (.int c)]) (st1 := [(.int l)]) 28 rfl rfl rfl rfl rfl rfl (Nat.le_of_ble_eq_true rfl) (Nat.le_of_ble_eq_true rfl) (Nat.le_of_ble_eq_true rfl) (q_has s c (by omega) (by omega)) ?_
        rintro _ _ ⟨rfl, x16, rfl, x16t⟩
        refine ⟨rfl, ?_⟩
        show aw none _ 178 _ (28, [some (.ref 65), some (.long s), none, some (.int i), some (.int l), some (.int c)], [(.int x16), (.int l)]) w
        have x16l := bt_le (n64 s) c.toInt.toNat
        refine s_if 35 31 rfl rfl rfl (fun (h17 : x16.toInt = 0) => ?_) (fun (h17 : ¬ (x16.toInt = 0)) => ?_)
        · --
          refine s_i (pc1 := 36) (ls1 := [some (.ref 65), some (.long s), none, some (.int i), some (.int l), some (.int c)]) (st1 := [(.int l)]) rfl rfl fun x18 e19 => ?_
          have e19t : x18.toInt = 0 := by rw [e19]; rfl
          refine s_i (pc1 := 37) (ls1 := [some (.ref 65), some (.long s), none, some (.int i), some (.int l), some (.int c)]) (st1 := []) rfl rfl fun x20 e21 => ?_
          have e21 : x20 = l - x18 := e21
          have e21t : x20.toInt = l.toInt - x18.toInt := by rw [e21]; exact n_sub (by omega) (by omega)
          refine aw_step (f1 := (39, [some (.ref 65), some (.long s), none, some (.int i), some (.int x20), some (.int c)], [])) (w1 := w) rfl rfl ?_
          refine aw_step (f1 := (42, [some (.ref 65), some (.long s), none, some (.int i), some (.int x20), some (.int (c + Int32.ofInt 1))], [])) (w1 := w) rfl rfl ?_
          obtain ⟨x22, x22e⟩ : ∃ z, z = (c + Int32.ofInt 1) := ⟨_, rfl⟩
          have x22t : x22.toInt = c.toInt + (1) := by rw [x22e]; exact n_add (y := Int32.ofInt (1)) (by show _ ≤ _ + (1 : Int); omega) (by show _ + (1 : Int) ≤ _; omega)
          rw [← x22e]
          refine aw_step (f1 := (6, [some (.ref 65), some (.long s), none, some (.int i), some (.int x20), some (.int x22)], [])) (w1 := w) rfl rfl ?_
          have st := bt_s (n64 s) c.toInt.toNat
          rw [show c.toInt.toNat + 1 = x22.toInt.toNat by omega] at st
          exact ih _ _ (by omega) (by omega) (by omega) (by omega)
        · --
          refine s_i (pc1 := 32) (ls1 := [some (.ref 65), some (.long s), none, some (.int i), some (.int l), some (.int c)]) (st1 := [(.int l)]) rfl rfl fun x23 e24 => ?_
          have e24t : x23.toInt = 1 := by rw [e24]; rfl
          refine aw_step (f1 := (36, [some (.ref 65), some (.long s), none, some (.int i), some (.int l), some (.int c)], [(.int x23), (.int l)])) (w1 := w) rfl rfl ?_
          refine s_i (pc1 := 37) (ls1 := [some (.ref 65), some (.long s), none, some (.int i), some (.int l), some (.int c)]) (st1 := []) rfl rfl fun x25 e26 => ?_
          have e26 : x25 = l - x23 := e26
          have e26t : x25.toInt = l.toInt - x23.toInt := by rw [e26]; exact n_sub (by omega) (by omega)
          refine aw_step (f1 := (39, [some (.ref 65), some (.long s), none, some (.int i), some (.int x25), some (.int c)], [])) (w1 := w) rfl rfl ?_
          refine aw_step (f1 := (42, [some (.ref 65), some (.long s), none, some (.int i), some (.int x25), some (.int (c + Int32.ofInt 1))], [])) (w1 := w) rfl rfl ?_
          obtain ⟨x27, x27e⟩ : ∃ z, z = (c + Int32.ofInt 1) := ⟨_, rfl⟩
          have x27t : x27.toInt = c.toInt + (1) := by rw [x27e]; exact n_add (y := Int32.ofInt (1)) (by show _ ≤ _ + (1 : Int); omega) (by show _ + (1 : Int) ≤ _; omega)
          rw [← x27e]
          refine aw_step (f1 := (6, [some (.ref 65), some (.long s), none, some (.int i), some (.int x25), some (.int x27)], [])) (w1 := w) rfl rfl ?_
          have st := bt_s (n64 s) c.toInt.toNat
          rw [show c.toInt.toNat + 1 = x27.toInt.toNat by omega] at st
          exact ih _ _ (by omega) (by omega) (by omega) (by omega)
theorem f_nth {d : Nat} {w : am_W} (s : Int64) (i : Int32) (p0 : n64 s < 2 ^ 36) (pi0 : 0 ≤ i.toInt) (pi : i.toInt < cnt (n64 s) 64) : aw none (d + 1) 178 (fun r w1 => w = w1 ∧ ∃ b : Int32, r = some (.int b) ∧ 0 ≤ b.toInt ∧ b.toInt < 36 ∧ bt (n64 s) b.toInt.toNat = 1 ∧ (cnt (n64 s) b.toInt.toNat : Int) = i.toInt) (0, am_entry 178 [.ref 65, .long s, .int i], []) w := by
  show aw none (d + 1) 178 _ (0, [some (.ref 65), some (.long s), none, some (.int i), none, none], []) w
  refine aw_step (f1 := (1, [some (.ref 65), some (.long s), none, some (.int i), none, none], [(.int i)])) (w1 := w) rfl rfl ?_
  refine aw_step (f1 := (3, [some (.ref 65), some (.long s), none, some (.int i), some (.int i), none], [])) (w1 := w) rfl rfl ?_
  refine s_i (pc1 := 4) (ls1 := [some (.ref 65), some (.long s), none, some (.int i), some (.int i), none]) (st1 := []) rfl rfl fun x1 e2 => ?_
  have e2t : x1.toInt = 0 := by rw [e2]; rfl
  refine aw_step (f1 := (6, [some (.ref 65), some (.long s), none, some (.int i), some (.int i), some (.int x1)], [])) (w1 := w) rfl rfl ?_
  exact f_nthL s i p0 pi (64 + 1) i x1 (by omega) (by omega) (by omega) (by rw [e2t]; show _ + ((0 : Nat) : Int) = _; omega)
theorem f_yrL {d : Nat} {w00 w : am_W} {V : Nat → Int} (R : RMs w V) (b sd n wh : Int32) (lr : lrV V (V (8 + 4 * b.toInt.toNat + 0)) (rL w 74)) (hb : 0 ≤ b.toInt ∧ b.toInt ≤ 3) (hsd : 0 ≤ sd.toInt ∧ sd.toInt ≤ 9999) (hn : 1 ≤ n.toInt ∧ n.toInt ≤ 99) (hwh : 0 ≤ wh.toInt ∧ wh.toInt ≤ 2) (J : ab_J ab_TT ab_sets ab_WR w00 w) : ∀ (m : Nat) (x c : Int32) (bn : Int64) (h i : Int32) (o11 : Option Value), (n.toInt - i.toInt).toNat < m → 0 ≤ i.toInt → i.toInt ≤ n.toInt → (0 ≤ x.toInt ∧ x.toInt ≤ 65536) → (0 ≤ c.toInt ∧ c.toInt < szV V) → (0 ≤ h.toInt ∧ h.toInt ≤ i.toInt) → V (40 + c.toInt.toNat) ≠ 126 → yW V (V (8 + 4 * b.toInt.toNat + 0)) sd.toInt i.toInt.toNat x.toInt c.toInt.toNat (n64 bn) h.toInt → aw none (d + 3) 179 (fun r w1 => ab_J ab_TT ab_sets ab_WR w00 w1 ∧ ∃ z : Int32, r = some (.int z) ∧ yerP V b.toInt sd.toInt n.toInt wh.toInt z.toInt) (77, [some (.ref 65), some (.int b), some (.int sd), some (.int n), some (.int wh), some (.int x), some (.int c), some (.long bn), none, some (.int h), some (.int i), o11], []) w := by
  have szm := szM_in J.1
  have hsz := R.sz
  have r2 := R.f2
  intro m
  induction m with
  | zero => intro x c bn h i o11 p; omega
  | succ m ih =>
    intro x c bn h i o11 p1 p2 p3 p4 p5 p6 p7 F
    refine aw_step (f1 := (79, [some (.ref 65), some (.int b), some (.int sd), some (.int n), some (.int wh), some (.int x), some (.int c), some (.long bn), none, some (.int h), some (.int i), o11], [(.int i)])) (w1 := w) rfl rfl ?_
    refine aw_step (f1 := (80, [some (.ref 65), some (.int b), some (.int sd), some (.int n), some (.int wh), some (.int x), some (.int c), some (.long bn), none, some (.int h), some (.int i), o11], [(.int n), (.int i)])) (w1 := w) rfl rfl ?_
    refine s_ic 175 83 rfl rfl rfl (fun (h1 : n.toInt ≤ i.toInt) => ?_) (fun (h1 : ¬ (n.toInt ≤ i.toInt)) => ?_)
    · --
      refine aw_step (f1 := (177, [some (.ref 65), some (.int b), some (.int sd), some (.int n), some (.int wh), some (.int x), some (.int c), some (.long bn), none, some (.int h), some (.int i), o11], [(.int wh)])) (w1 := w) rfl rfl ?_
      refine s_if 185 180 rfl rfl rfl (fun (h2 : ¬ wh.toInt = 0) => ?_) (fun (h2 : ¬ (¬ wh.toInt = 0)) => ?_)
      · --
        refine aw_step (f1 := (187, [some (.ref 65), some (.int b), some (.int sd), some (.int n), some (.int wh), some (.int x), some (.int c), some (.long bn), none, some (.int h), some (.int i), o11], [(.int wh)])) (w1 := w) rfl rfl ?_
        refine s_i (pc1 := 188) (ls1 := [some (.ref 65), some (.int b), some (.int sd), some (.int n), some (.int wh), some (.int x), some (.int c), some (.long bn), none, some (.int h), some (.int i), o11]) (st1 := [(.int wh)]) rfl rfl fun x3 e4 => ?_
        have e4t : x3.toInt = 1 := by rw [e4]; rfl
        refine s_ic 199 191 rfl rfl rfl (fun (h5 : ¬ wh.toInt = x3.toInt) => ?_) (fun (h5 : ¬ (¬ wh.toInt = x3.toInt)) => ?_)
        · --
          refine aw_step (f1 := (201, [some (.ref 65), some (.int b), some (.int sd), some (.int n), some (.int wh), some (.int x), some (.int c), some (.long bn), none, some (.int h), some (.int i), o11], [(.int h)])) (w1 := w) rfl rfl ?_
          refine aw_ret (v := some (.int h)) rfl rfl ?_
          rw [show i.toInt.toNat = n.toInt.toNat by omega] at F
          first
            | exact ⟨J, h, rfl, Or.inr (Or.inr ⟨⟨by omega, by omega⟩, ⟨by omega, by omega⟩, ⟨by omega, by omega⟩, ⟨by omega, by omega⟩, _, _, _, _, F, Or.inl ⟨by omega, by omega⟩⟩)⟩
            | exact ⟨J, h, rfl, Or.inr (Or.inr ⟨⟨by omega, by omega⟩, ⟨by omega, by omega⟩, ⟨by omega, by omega⟩, ⟨by omega, by omega⟩, _, _, _, _, F, Or.inr (Or.inl ⟨by omega, by omega⟩)⟩)⟩
            | exact ⟨J, h, rfl, Or.inr (Or.inr ⟨⟨by omega, by omega⟩, ⟨by omega, by omega⟩, ⟨by omega, by omega⟩, ⟨by omega, by omega⟩, _, _, _, _, F, Or.inr (Or.inr ⟨by omega, by omega⟩)⟩)⟩
        · --
          refine aw_step (f1 := (193, [some (.ref 65), some (.int b), some (.int sd), some (.int n), some (.int wh), some (.int x), some (.int c), some (.long bn), none, some (.int h), some (.int i), o11], [(.long bn)])) (w1 := w) rfl rfl ?_
          refine s_cs (z := 109) (as := [(.long bn)]) (st1 := []) 196 rfl rfl rfl rfl rfl rfl (Nat.le_of_ble_eq_true rfl) (Nat.le_of_ble_eq_true rfl) (Nat.le_of_ble_eq_true rfl) (q_ones bn) ?_
          rintro _ _ ⟨rfl, x6, rfl, x6t⟩
          refine ⟨rfl, ?_⟩
          show aw none _ 179 _ (196, [some (.ref 65), some (.int b), some (.int sd), some (.int n), some (.int wh), some (.int x), some (.int c), some (.long bn), none, some (.int h), some (.int i), o11], [(.int x6)]) w
          have x6c := cnt_le (n64 bn) 64
          refine aw_step (f1 := (201, [some (.ref 65), some (.int b), some (.int sd), some (.int n), some (.int wh), some (.int x), some (.int c), some (.long bn), none, some (.int h), some (.int i), o11], [(.int x6)])) (w1 := w) rfl rfl ?_
          refine aw_ret (v := some (.int x6)) rfl rfl ?_
          rw [show i.toInt.toNat = n.toInt.toNat by omega] at F
          first
            | exact ⟨J, x6, rfl, Or.inr (Or.inr ⟨⟨by omega, by omega⟩, ⟨by omega, by omega⟩, ⟨by omega, by omega⟩, ⟨by omega, by omega⟩, _, _, _, _, F, Or.inl ⟨by omega, by omega⟩⟩)⟩
            | exact ⟨J, x6, rfl, Or.inr (Or.inr ⟨⟨by omega, by omega⟩, ⟨by omega, by omega⟩, ⟨by omega, by omega⟩, ⟨by omega, by omega⟩, _, _, _, _, F, Or.inr (Or.inl ⟨by omega, by omega⟩)⟩)⟩
            | exact ⟨J, x6, rfl, Or.inr (Or.inr ⟨⟨by omega, by omega⟩, ⟨by omega, by omega⟩, ⟨by omega, by omega⟩, ⟨by omega, by omega⟩, _, _, _, _, F, Or.inr (Or.inr ⟨by omega, by omega⟩)⟩)⟩
      · --
        refine aw_step (f1 := (182, [some (.ref 65), some (.int b), some (.int sd), some (.int n), some (.int wh), some (.int x), some (.int c), some (.long bn), none, some (.int h), some (.int i), o11], [(.int c)])) (w1 := w) rfl rfl ?_
        refine aw_step (f1 := (201, [some (.ref 65), some (.int b), some (.int sd), some (.int n), some (.int wh), some (.int x), some (.int c), some (.long bn), none, some (.int h), some (.int i), o11], [(.int c)])) (w1 := w) rfl rfl ?_
        refine aw_ret (v := some (.int c)) rfl rfl ?_
        rw [show i.toInt.toNat = n.toInt.toNat by omega] at F
        first
          | exact ⟨J, c, rfl, Or.inr (Or.inr ⟨⟨by omega, by omega⟩, ⟨by omega, by omega⟩, ⟨by omega, by omega⟩, ⟨by omega, by omega⟩, _, _, _, _, F, Or.inl ⟨by omega, by omega⟩⟩)⟩
          | exact ⟨J, c, rfl, Or.inr (Or.inr ⟨⟨by omega, by omega⟩, ⟨by omega, by omega⟩, ⟨by omega, by omega⟩, ⟨by omega, by omega⟩, _, _, _, _, F, Or.inr (Or.inl ⟨by omega, by omega⟩)⟩)⟩
          | exact ⟨J, c, rfl, Or.inr (Or.inr ⟨⟨by omega, by omega⟩, ⟨by omega, by omega⟩, ⟨by omega, by omega⟩, ⟨by omega, by omega⟩, _, _, _, _, F, Or.inr (Or.inr ⟨by omega, by omega⟩)⟩)⟩
    · --
      refine s_l (pc1 := 86) (ls1 := [some (.ref 65), some (.int b), some (.int sd), some (.int n), some (.int wh), some (.int x), some (.int c), some (.long bn), none, some (.int h), some (.int i), o11]) (st1 := []) rfl rfl fun y7 e8 => ?_
      have e8t : y7.toInt = 75 := by rw [e8]; rfl
      refine aw_step (f1 := (88, [some (.ref 65), some (.int b), some (.int sd), some (.int n), some (.int wh), some (.int x), some (.int c), some (.long bn), none, some (.int h), some (.int i), o11], [(.int x), (.long y7)])) (w1 := w) rfl rfl ?_
      refine s_l (pc1 := 89) (ls1 := [some (.ref 65), some (.int b), some (.int sd), some (.int n), some (.int wh), some (.int x), some (.int c), some (.long bn), none, some (.int h), some (.int i), o11]) (st1 := [(.long y7)]) rfl rfl fun y9 e10 => ?_
      have e10t : y9.toInt = x.toInt := by rw [e10]; exact Int32.toInt_toInt64 x
      --
      refine s_l (pc1 := 90) (ls1 := [some (.ref 65), some (.int b), some (.int sd), some (.int n), some (.int wh), some (.int x), some (.int c), some (.long bn), none, some (.int h), some (.int i), o11]) (st1 := []) rfl rfl fun y11 e12 => ?_
      have e12 : y11 = y7 * y9 := e12
      have m1 : y11.toInt = 75 * x.toInt := by rw [e12, l_mul (by rw [e8t, e10t]; omega) (by rw [e8t, e10t]; omega), e8t, e10t]
      refine s_l (pc1 := 93) (ls1 := [some (.ref 65), some (.int b), some (.int sd), some (.int n), some (.int wh), some (.int x), some (.int c), some (.long bn), none, some (.int h), some (.int i), o11]) (st1 := [(.long y11)]) rfl rfl fun y13 e14 => ?_
      have e14t : y13.toInt = 74 := by rw [e14]; rfl
      --
      refine s_l (pc1 := 94) (ls1 := [some (.ref 65), some (.int b), some (.int sd), some (.int n), some (.int wh), some (.int x), some (.int c), some (.long bn), none, some (.int h), some (.int i), o11]) (st1 := []) rfl rfl fun y15 e16 => ?_
      have e16 : y15 = y11 + y13 := e16
      have m2 : y15.toInt = 75 * x.toInt + 74 := by rw [e16, l_add (by rw [e14t, m1]; omega) (by rw [e14t, m1]; omega), e14t, m1]
      refine s_l (pc1 := 97) (ls1 := [some (.ref 65), some (.int b), some (.int sd), some (.int n), some (.int wh), some (.int x), some (.int c), some (.long bn), none, some (.int h), some (.int i), o11]) (st1 := [(.long y15)]) rfl rfl fun y17 e18 => ?_
      have e18t : y17.toInt = 65537 := by rw [e18]; rfl
      --
      refine s_dvl (f := fun x y => x - x / y * y) 98 rfl rfl (by omega) fun y19 e20 => ?_
      have e20 : y19 = y15 - y15 / y17 * y17 := e20
      have m3 : y19.toInt = (75 * x.toInt + 74) % 65537 := by rw [e20, l_rem (by omega), e18t, m2, Int.tmod_eq_emod_of_nonneg (by omega)]
      refine s_i (pc1 := 99) (ls1 := [some (.ref 65), some (.int b), some (.int sd), some (.int n), some (.int wh), some (.int x), some (.int c), some (.long bn), none, some (.int h), some (.int i), o11]) (st1 := []) rfl rfl fun x21 e22 => ?_
      have e22 : x21 = y19.toInt32 := e22
      have m4 : x21.toInt = (75 * x.toInt + 74) % 65537 := by rw [e22, l_i (by omega) (by omega)]; exact m3
      refine aw_step (f1 := (101, [some (.ref 65), some (.int b), some (.int sd), some (.int n), some (.int wh), some (.int x21), some (.int c), some (.long bn), none, some (.int h), some (.int i), o11], [])) (w1 := w) rfl rfl ?_
      refine aw_step (f1 := (102, [some (.ref 65), some (.int b), some (.int sd), some (.int n), some (.int wh), some (.int x21), some (.int c), some (.long bn), none, some (.int h), some (.int i), o11], [(.ref 65)])) (w1 := w) rfl rfl ?_
      refine s_gr 74 J 105 rfl rfl rfl rfl rfl rfl ?_
      refine aw_step (f1 := (107, [some (.ref 65), some (.int b), some (.int sd), some (.int n), some (.int wh), some (.int x21), some (.int c), some (.long bn), none, some (.int h), some (.int i), o11], [(.int c), (.ref 74)])) (w1 := w) rfl rfl ?_
      refine s_la J 108 rfl rfl rfl (by omega) (by omega) fun y23 y23a y23b y23f => ?_
      have ly : rL w 74 c.toInt.toNat = n64 y23 := rL_of y23f
      have ls : lsV V (V (8 + 4 * b.toInt.toNat + 0)) (c.toInt.toNat : Nat) (n64 y23) := fun j => by
        rw [← ly]
        exact (lr c.toInt.toNat j (by omega)).trans ⟨fun q => q.2, fun q => ⟨p7, q⟩⟩
      have y36 : n64 y23 < 2 ^ 36 := ls.lt (by omega)
      refine s_cs (z := 109) (as := [(.long y23)]) (st1 := []) 111 rfl rfl rfl rfl rfl rfl (Nat.le_of_ble_eq_true rfl) (Nat.le_of_ble_eq_true rfl) (Nat.le_of_ble_eq_true rfl) (q_ones y23) ?_
      rintro _ _ ⟨rfl, x24, rfl, x24t⟩
      refine ⟨rfl, ?_⟩
      show aw none _ 179 _ (111, [some (.ref 65), some (.int b), some (.int sd), some (.int n), some (.int wh), some (.int x21), some (.int c), some (.long bn), none, some (.int h), some (.int i), o11], [(.int x24)]) w
      have x24c := cnt_le (n64 y23) 64
      --
      refine aw_step (f1 := (113, [some (.ref 65), some (.int b), some (.int sd), some (.int n), some (.int wh), some (.int x21), some (.int c), some (.long bn), none, some (.int h), some (.int i), some (.int x24)], [])) (w1 := w) rfl rfl ?_
      refine aw_step (f1 := (115, [some (.ref 65), some (.int b), some (.int sd), some (.int n), some (.int wh), some (.int x21), some (.int c), some (.long bn), none, some (.int h), some (.int i), some (.int x24)], [(.int x24)])) (w1 := w) rfl rfl ?_
      refine s_if 123 118 rfl rfl rfl (fun (h25 : ¬ x24.toInt = 0) => ?_) (fun (h25 : ¬ (¬ x24.toInt = 0)) => ?_)
      · --
        refine aw_step (f1 := (124, [some (.ref 65), some (.int b), some (.int sd), some (.int n), some (.int wh), some (.int x21), some (.int c), some (.long bn), none, some (.int h), some (.int i), some (.int x24)], [(.ref 65)])) (w1 := w) rfl rfl ?_
        refine aw_step (f1 := (125, [some (.ref 65), some (.int b), some (.int sd), some (.int n), some (.int wh), some (.int x21), some (.int c), some (.long bn), none, some (.int h), some (.int i), some (.int x24)], [(.ref 65), (.ref 65)])) (w1 := w) rfl rfl ?_
        refine s_gr 74 J 128 rfl rfl rfl rfl rfl rfl ?_
        refine aw_step (f1 := (130, [some (.ref 65), some (.int b), some (.int sd), some (.int n), some (.int wh), some (.int x21), some (.int c), some (.long bn), none, some (.int h), some (.int i), some (.int x24)], [(.int c), (.ref 74), (.ref 65)])) (w1 := w) rfl rfl ?_
        refine s_la J 131 rfl rfl rfl (by omega) (by omega) fun y26 y26a y26b y26f => ?_
        have hq : y26 = y23 := Option.some.inj (y26f.symm.trans y23f)
        refine aw_step (f1 := (133, [some (.ref 65), some (.int b), some (.int sd), some (.int n), some (.int wh), some (.int x21), some (.int c), some (.long bn), none, some (.int h), some (.int i), some (.int x24)], [(.int x21), (.long y26), (.ref 65)])) (w1 := w) rfl rfl ?_
        refine aw_step (f1 := (135, [some (.ref 65), some (.int b), some (.int sd), some (.int n), some (.int wh), some (.int x21), some (.int c), some (.long bn), none, some (.int h), some (.int i), some (.int x24)], [(.int x24), (.int x21), (.long y26), (.ref 65)])) (w1 := w) rfl rfl ?_
        have hr1 := Int.emod_nonneg x21.toInt (show x24.toInt ≠ 0 by omega)
        have hr2 := Int.emod_lt_of_pos x21.toInt (show 0 < x24.toInt by omega)
        refine s_dv (f := fun x y => x - x / y * y) 136 rfl rfl (by omega) fun x27 e28 => ?_
        have e28 : x27 = x21 - x21 / x24 * x24 := e28
        have e28t : x27.toInt = x21.toInt % x24.toInt := by rw [e28]; exact n_rem (by omega) (by omega)
        refine s_cv (z := 178) (p := 65) (as := [(.long y26), (.int x27)]) (st1 := []) J 139 rfl rfl rfl rfl rfl rfl rfl rfl (Nat.le_of_ble_eq_true rfl) (Nat.le_of_ble_eq_true rfl) (f_nth y26 x27 (by rw [hq]; exact y36) (by omega) (by rw [hq]; omega)) ?_
        rintro _ _ ⟨rfl, x29, rfl, x29a, x29b, x29t, x29c⟩
        refine ⟨rfl, ?_⟩
        show aw none _ 179 _ (139, [some (.ref 65), some (.int b), some (.int sd), some (.int n), some (.int wh), some (.int x21), some (.int c), some (.long bn), none, some (.int h), some (.int i), some (.int x24)], [(.int x29)]) w
        rw [hq] at x29t x29c
        have dp : drP V (V (8 + 4 * b.toInt.toNat + 0)) c.toInt.toNat x21.toInt x29.toInt.toNat := ⟨n64 y23, ls, Or.inr ⟨by omega, x29t, by rw [x29c, e28t, x24t]⟩⟩
        have zl0 := ((ls x29.toInt.toNat).mp x29t).1
        have zb : 0 ≤ x29.toInt ∧ x29.toInt < szV V := ⟨by omega, by omega⟩
        have zl : V (40 + x29.toInt.toNat) ≠ 126 := zl0.2
        refine aw_step (f1 := (141, [some (.ref 65), some (.int b), some (.int sd), some (.int n), some (.int wh), some (.int x21), some (.int x29), some (.long bn), none, some (.int h), some (.int i), some (.int x24)], [])) (w1 := w) rfl rfl ?_
        refine aw_step (f1 := (143, [some (.ref 65), some (.int b), some (.int sd), some (.int n), some (.int wh), some (.int x21), some (.int x29), some (.long bn), none, some (.int h), some (.int i), some (.int x24)], [(.long bn)])) (w1 := w) rfl rfl ?_
        refine s_l (pc1 := 144) (ls1 := [some (.ref 65), some (.int b), some (.int sd), some (.int n), some (.int wh), some (.int x21), some (.int x29), some (.long bn), none, some (.int h), some (.int i), some (.int x24)]) (st1 := [(.long bn)]) rfl rfl fun y30 e31 => ?_
        have e31t : y30.toInt = 1 := by rw [e31]; rfl
        --
        refine aw_step (f1 := (146, [some (.ref 65), some (.int b), some (.int sd), some (.int n), some (.int wh), some (.int x21), some (.int x29), some (.long bn), none, some (.int h), some (.int i), some (.int x24)], [(.int x29), (.long y30), (.long bn)])) (w1 := w) rfl rfl ?_
        refine s_l (pc1 := 147) (ls1 := [some (.ref 65), some (.int b), some (.int sd), some (.int n), some (.int wh), some (.int x21), some (.int x29), some (.long bn), none, some (.int h), some (.int i), some (.int x24)]) (st1 := [(.long bn)]) rfl rfl fun y32 e33 => ?_
        have e33 : y32 = y30 <<< (x29.toInt64 &&& 63) := e33
        have hb : n64 y32 = 2 ^ x29.toInt.toNat := by rw [e33]; exact n64_shl (by omega) (by omega) e31t
        refine s_l (pc1 := 148) (ls1 := [some (.ref 65), some (.int b), some (.int sd), some (.int n), some (.int wh), some (.int x21), some (.int x29), some (.long bn), none, some (.int h), some (.int i), some (.int x24)]) (st1 := []) rfl rfl fun y34 e35 => ?_
        have e35 : y34 = bn ||| y32 := e35
        refine aw_step (f1 := (150, [some (.ref 65), some (.int b), some (.int sd), some (.int n), some (.int wh), some (.int x21), some (.int x29), some (.long y34), none, some (.int h), some (.int i), some (.int x24)], [])) (w1 := w) rfl rfl ?_
        refine aw_step (f1 := (152, [some (.ref 65), some (.int b), some (.int sd), some (.int n), some (.int wh), some (.int x21), some (.int x29), some (.long y34), none, some (.int h), some (.int i), some (.int x24)], [(.int h)])) (w1 := w) rfl rfl ?_
        refine aw_step (f1 := (154, [some (.ref 65), some (.int b), some (.int sd), some (.int n), some (.int wh), some (.int x21), some (.int x29), some (.long y34), none, some (.int h), some (.int i), some (.int x24)], [(.int x29), (.int h)])) (w1 := w) rfl rfl ?_
        refine aw_step (f1 := (155, [some (.ref 65), some (.int b), some (.int sd), some (.int n), some (.int wh), some (.int x21), some (.int x29), some (.long y34), none, some (.int h), some (.int i), some (.int x24)], [(.ref 65), (.int x29), (.int h)])) (w1 := w) rfl rfl ?_
        refine s_gi J 158 rfl rfl rfl rfl rfl rfl fun x36 x36a x36b x36f => ?_
        have x36v : x36.toInt = fI w 65 3 := by rw [← fI_of x36f]
        refine s_ic 165 161 rfl rfl rfl (fun (h37 : ¬ x29.toInt = x36.toInt) => ?_) (fun (h37 : ¬ (¬ x29.toInt = x36.toInt)) => ?_)
        · --
          refine s_i (pc1 := 166) (ls1 := [some (.ref 65), some (.int b), some (.int sd), some (.int n), some (.int wh), some (.int x21), some (.int x29), some (.long y34), none, some (.int h), some (.int i), some (.int x24)]) (st1 := [(.int h)]) rfl rfl fun x38 e39 => ?_
          have e39t : x38.toInt = 0 := by rw [e39]; rfl
          refine s_i (pc1 := 167) (ls1 := [some (.ref 65), some (.int b), some (.int sd), some (.int n), some (.int wh), some (.int x21), some (.int x29), some (.long y34), none, some (.int h), some (.int i), some (.int x24)]) (st1 := []) rfl rfl fun x40 e41 => ?_
          have e41 : x40 = h + x38 := e41
          have e41t : x40.toInt = h.toInt + x38.toInt := by rw [e41]; exact n_add (by omega) (by omega)
          refine aw_step (f1 := (169, [some (.ref 65), some (.int b), some (.int sd), some (.int n), some (.int wh), some (.int x21), some (.int x29), some (.long y34), none, some (.int x40), some (.int i), some (.int x24)], [])) (w1 := w) rfl rfl ?_
          refine aw_step (f1 := (172, [some (.ref 65), some (.int b), some (.int sd), some (.int n), some (.int wh), some (.int x21), some (.int x29), some (.long y34), none, some (.int x40), some (.int (i + Int32.ofInt 1)), some (.int x24)], [])) (w1 := w) rfl rfl ?_
          obtain ⟨x42, x42e⟩ : ∃ z, z = (i + Int32.ofInt 1) := ⟨_, rfl⟩
          have x42t : x42.toInt = i.toInt + (1) := by rw [x42e]; exact n_add (y := Int32.ofInt (1)) (by show _ ≤ _ + (1 : Int); omega) (by show _ + (1 : Int) ≤ _; omega)
          rw [← x42e]
          refine aw_step (f1 := (77, [some (.ref 65), some (.int b), some (.int sd), some (.int n), some (.int wh), some (.int x21), some (.int x29), some (.long y34), none, some (.int x40), some (.int x42), some (.int x24)], [])) (w1 := w) rfl rfl ?_
          refine ih x21 x29 y34 x40 x42 _ (by omega) (by omega) (by omega) ⟨by omega, by omega⟩ zb ⟨by omega, by omega⟩ zl ?_
          rw [show x42.toInt.toNat = i.toInt.toNat + 1 by omega]
          refine ⟨x.toInt, c.toInt.toNat, n64 bn, h.toInt, F, by omega, dp, by rw [e35, n64_or, hb], ?_⟩
          first
            | (rw [if_pos (by omega)]; omega)
            | (rw [if_neg (by omega)]; omega)
        · --
          refine s_i (pc1 := 162) (ls1 := [some (.ref 65), some (.int b), some (.int sd), some (.int n), some (.int wh), some (.int x21), some (.int x29), some (.long y34), none, some (.int h), some (.int i), some (.int x24)]) (st1 := [(.int h)]) rfl rfl fun x43 e44 => ?_
          have e44t : x43.toInt = 1 := by rw [e44]; rfl
          refine aw_step (f1 := (166, [some (.ref 65), some (.int b), some (.int sd), some (.int n), some (.int wh), some (.int x21), some (.int x29), some (.long y34), none, some (.int h), some (.int i), some (.int x24)], [(.int x43), (.int h)])) (w1 := w) rfl rfl ?_
          refine s_i (pc1 := 167) (ls1 := [some (.ref 65), some (.int b), some (.int sd), some (.int n), some (.int wh), some (.int x21), some (.int x29), some (.long y34), none, some (.int h), some (.int i), some (.int x24)]) (st1 := []) rfl rfl fun x45 e46 => ?_
          have e46 : x45 = h + x43 := e46
          have e46t : x45.toInt = h.toInt + x43.toInt := by rw [e46]; exact n_add (by omega) (by omega)
          refine aw_step (f1 := (169, [some (.ref 65), some (.int b), some (.int sd), some (.int n), some (.int wh), some (.int x21), some (.int x29), some (.long y34), none, some (.int x45), some (.int i), some (.int x24)], [])) (w1 := w) rfl rfl ?_
          refine aw_step (f1 := (172, [some (.ref 65), some (.int b), some (.int sd), some (.int n), some (.int wh), some (.int x21), some (.int x29), some (.long y34), none, some (.int x45), some (.int (i + Int32.ofInt 1)), some (.int x24)], [])) (w1 := w) rfl rfl ?_
          obtain ⟨x47, x47e⟩ : ∃ z, z = (i + Int32.ofInt 1) := ⟨_, rfl⟩
          have x47t : x47.toInt = i.toInt + (1) := by rw [x47e]; exact n_add (y := Int32.ofInt (1)) (by show _ ≤ _ + (1 : Int); omega) (by show _ + (1 : Int) ≤ _; omega)
          rw [← x47e]
          refine aw_step (f1 := (77, [some (.ref 65), some (.int b), some (.int sd), some (.int n), some (.int wh), some (.int x21), some (.int x29), some (.long y34), none, some (.int x45), some (.int x47), some (.int x24)], [])) (w1 := w) rfl rfl ?_
          refine ih x21 x29 y34 x45 x47 _ (by omega) (by omega) (by omega) ⟨by omega, by omega⟩ zb ⟨by omega, by omega⟩ zl ?_
          rw [show x47.toInt.toNat = i.toInt.toNat + 1 by omega]
          refine ⟨x.toInt, c.toInt.toNat, n64 bn, h.toInt, F, by omega, dp, by rw [e35, n64_or, hb], ?_⟩
          first
            | (rw [if_pos (by omega)]; omega)
            | (rw [if_neg (by omega)]; omega)
      · --
        refine aw_step (f1 := (120, [some (.ref 65), some (.int b), some (.int sd), some (.int n), some (.int wh), some (.int x21), some (.int c), some (.long bn), none, some (.int h), some (.int i), some (.int x24)], [(.int c)])) (w1 := w) rfl rfl ?_
        --
        refine aw_step (f1 := (139, [some (.ref 65), some (.int b), some (.int sd), some (.int n), some (.int wh), some (.int x21), some (.int c), some (.long bn), none, some (.int h), some (.int i), some (.int x24)], [(.int c)])) (w1 := w) rfl rfl ?_
        have dp : drP V (V (8 + 4 * b.toInt.toNat + 0)) c.toInt.toNat x21.toInt c.toInt.toNat := ⟨n64 y23, ls, Or.inl ⟨by omega, rfl⟩⟩
        have zb : 0 ≤ c.toInt ∧ c.toInt < szV V := p5
        have zl : V (40 + c.toInt.toNat) ≠ 126 := p7
        refine aw_step (f1 := (141, [some (.ref 65), some (.int b), some (.int sd), some (.int n), some (.int wh), some (.int x21), some (.int c), some (.long bn), none, some (.int h), some (.int i), some (.int x24)], [])) (w1 := w) rfl rfl ?_
        refine aw_step (f1 := (143, [some (.ref 65), some (.int b), some (.int sd), some (.int n), some (.int wh), some (.int x21), some (.int c), some (.long bn), none, some (.int h), some (.int i), some (.int x24)], [(.long bn)])) (w1 := w) rfl rfl ?_
        refine s_l (pc1 := 144) (ls1 := [some (.ref 65), some (.int b), some (.int sd), some (.int n), some (.int wh), some (.int x21), some (.int c), some (.long bn), none, some (.int h), some (.int i), some (.int x24)]) (st1 := [(.long bn)]) rfl rfl fun y48 e49 => ?_
        have e49t : y48.toInt = 1 := by rw [e49]; rfl
        --
        refine aw_step (f1 := (146, [some (.ref 65), some (.int b), some (.int sd), some (.int n), some (.int wh), some (.int x21), some (.int c), some (.long bn), none, some (.int h), some (.int i), some (.int x24)], [(.int c), (.long y48), (.long bn)])) (w1 := w) rfl rfl ?_
        refine s_l (pc1 := 147) (ls1 := [some (.ref 65), some (.int b), some (.int sd), some (.int n), some (.int wh), some (.int x21), some (.int c), some (.long bn), none, some (.int h), some (.int i), some (.int x24)]) (st1 := [(.long bn)]) rfl rfl fun y50 e51 => ?_
        have e51 : y50 = y48 <<< (c.toInt64 &&& 63) := e51
        have hb : n64 y50 = 2 ^ c.toInt.toNat := by rw [e51]; exact n64_shl (by omega) (by omega) e49t
        refine s_l (pc1 := 148) (ls1 := [some (.ref 65), some (.int b), some (.int sd), some (.int n), some (.int wh), some (.int x21), some (.int c), some (.long bn), none, some (.int h), some (.int i), some (.int x24)]) (st1 := []) rfl rfl fun y52 e53 => ?_
        have e53 : y52 = bn ||| y50 := e53
        refine aw_step (f1 := (150, [some (.ref 65), some (.int b), some (.int sd), some (.int n), some (.int wh), some (.int x21), some (.int c), some (.long y52), none, some (.int h), some (.int i), some (.int x24)], [])) (w1 := w) rfl rfl ?_
        refine aw_step (f1 := (152, [some (.ref 65), some (.int b), some (.int sd), some (.int n), some (.int wh), some (.int x21), some (.int c), some (.long y52), none, some (.int h), some (.int i), some (.int x24)], [(.int h)])) (w1 := w) rfl rfl ?_
        refine aw_step (f1 := (154, [some (.ref 65), some (.int b), some (.int sd), some (.int n), some (.int wh), some (.int x21), some (.int c), some (.long y52), none, some (.int h), some (.int i), some (.int x24)], [(.int c), (.int h)])) (w1 := w) rfl rfl ?_
        refine aw_step (f1 := (155, [some (.ref 65), some (.int b), some (.int sd), some (.int n), some (.int wh), some (.int x21), some (.int c), some (.long y52), none, some (.int h), some (.int i), some (.int x24)], [(.ref 65), (.int c), (.int h)])) (w1 := w) rfl rfl ?_
        refine s_gi J 158 rfl rfl rfl rfl rfl rfl fun x54 x54a x54b x54f => ?_
        have x54v : x54.toInt = fI w 65 3 := by rw [← fI_of x54f]
        refine s_ic 165 161 rfl rfl rfl (fun (h55 : ¬ c.toInt = x54.toInt) => ?_) (fun (h55 : ¬ (¬ c.toInt = x54.toInt)) => ?_)
        · --
          refine s_i (pc1 := 166) (ls1 := [some (.ref 65), some (.int b), some (.int sd), some (.int n), some (.int wh), some (.int x21), some (.int c), some (.long y52), none, some (.int h), some (.int i), some (.int x24)]) (st1 := [(.int h)]) rfl rfl fun x56 e57 => ?_
          have e57t : x56.toInt = 0 := by rw [e57]; rfl
          refine s_i (pc1 := 167) (ls1 := [some (.ref 65), some (.int b), some (.int sd), some (.int n), some (.int wh), some (.int x21), some (.int c), some (.long y52), none, some (.int h), some (.int i), some (.int x24)]) (st1 := []) rfl rfl fun x58 e59 => ?_
          have e59 : x58 = h + x56 := e59
          have e59t : x58.toInt = h.toInt + x56.toInt := by rw [e59]; exact n_add (by omega) (by omega)
          refine aw_step (f1 := (169, [some (.ref 65), some (.int b), some (.int sd), some (.int n), some (.int wh), some (.int x21), some (.int c), some (.long y52), none, some (.int x58), some (.int i), some (.int x24)], [])) (w1 := w) rfl rfl ?_
          refine aw_step (f1 := (172, [some (.ref 65), some (.int b), some (.int sd), some (.int n), some (.int wh), some (.int x21), some (.int c), some (.long y52), none, some (.int x58), some (.int (i + Int32.ofInt 1)), some (.int x24)], [])) (w1 := w) rfl rfl ?_
          obtain ⟨x60, x60e⟩ : ∃ z, z = (i + Int32.ofInt 1) := ⟨_, rfl⟩
          have x60t : x60.toInt = i.toInt + (1) := by rw [x60e]; exact n_add (y := Int32.ofInt (1)) (by show _ ≤ _ + (1 : Int); omega) (by show _ + (1 : Int) ≤ _; omega)
          rw [← x60e]
          refine aw_step (f1 := (77, [some (.ref 65), some (.int b), some (.int sd), some (.int n), some (.int wh), some (.int x21), some (.int c), some (.long y52), none, some (.int x58), some (.int x60), some (.int x24)], [])) (w1 := w) rfl rfl ?_
          refine ih x21 c y52 x58 x60 _ (by omega) (by omega) (by omega) ⟨by omega, by omega⟩ zb ⟨by omega, by omega⟩ zl ?_
          rw [show x60.toInt.toNat = i.toInt.toNat + 1 by omega]
          refine ⟨x.toInt, c.toInt.toNat, n64 bn, h.toInt, F, by omega, dp, by rw [e53, n64_or, hb], ?_⟩
          first
            | (rw [if_pos (by omega)]; omega)
            | (rw [if_neg (by omega)]; omega)
        · --
          refine s_i (pc1 := 162) (ls1 := [some (.ref 65), some (.int b), some (.int sd), some (.int n), some (.int wh), some (.int x21), some (.int c), some (.long y52), none, some (.int h), some (.int i), some (.int x24)]) (st1 := [(.int h)]) rfl rfl fun x61 e62 => ?_
          have e62t : x61.toInt = 1 := by rw [e62]; rfl
          refine aw_step (f1 := (166, [some (.ref 65), some (.int b), some (.int sd), some (.int n), some (.int wh), some (.int x21), some (.int c), some (.long y52), none, some (.int h), some (.int i), some (.int x24)], [(.int x61), (.int h)])) (w1 := w) rfl rfl ?_
          refine s_i (pc1 := 167) (ls1 := [some (.ref 65), some (.int b), some (.int sd), some (.int n), some (.int wh), some (.int x21), some (.int c), some (.long y52), none, some (.int h), some (.int i), some (.int x24)]) (st1 := []) rfl rfl fun x63 e64 => ?_
          have e64 : x63 = h + x61 := e64
          have e64t : x63.toInt = h.toInt + x61.toInt := by rw [e64]; exact n_add (by omega) (by omega)
          refine aw_step (f1 := (169, [some (.ref 65), some (.int b), some (.int sd), some (.int n), some (.int wh), some (.int x21), some (.int c), some (.long y52), none, some (.int x63), some (.int i), some (.int x24)], [])) (w1 := w) rfl rfl ?_
          refine aw_step (f1 := (172, [some (.ref 65), some (.int b), some (.int sd), some (.int n), some (.int wh), some (.int x21), some (.int c), some (.long y52), none, some (.int x63), some (.int (i + Int32.ofInt 1)), some (.int x24)], [])) (w1 := w) rfl rfl ?_
          obtain ⟨x65, x65e⟩ : ∃ z, z = (i + Int32.ofInt 1) := ⟨_, rfl⟩
          have x65t : x65.toInt = i.toInt + (1) := by rw [x65e]; exact n_add (y := Int32.ofInt (1)) (by show _ ≤ _ + (1 : Int); omega) (by show _ + (1 : Int) ≤ _; omega)
          rw [← x65e]
          refine aw_step (f1 := (77, [some (.ref 65), some (.int b), some (.int sd), some (.int n), some (.int wh), some (.int x21), some (.int c), some (.long y52), none, some (.int x63), some (.int x65), some (.int x24)], [])) (w1 := w) rfl rfl ?_
          refine ih x21 c y52 x63 x65 _ (by omega) (by omega) (by omega) ⟨by omega, by omega⟩ zb ⟨by omega, by omega⟩ zl ?_
          rw [show x65.toInt.toNat = i.toInt.toNat + 1 by omega]
          refine ⟨x.toInt, c.toInt.toNat, n64 bn, h.toInt, F, by omega, dp, by rw [e53, n64_or, hb], ?_⟩
          first
            | (rw [if_pos (by omega)]; omega)
            | (rw [if_neg (by omega)]; omega)
theorem f_year {d : Nat} {w : am_W} {V : Nat → Int} (R : RMs w V) (hh : 0 ≤ V 2 ∧ V 2 < szV V) (hhl : V (40 + (V 2).toNat) ≠ 126) (b sd n wh : Int32) (I : ab_inv ab_TT ab_sets w) : aw none (d + 6) 179 (fun r w1 => ab_J ab_TT ab_sets ab_WR w w1 ∧ ∃ z : Int32, r = some (.int z) ∧ yerP V b.toInt sd.toInt n.toInt wh.toInt z.toInt) (0, am_entry 179 [.ref 65, .int b, .int sd, .int n, .int wh], []) w := by
  have J : ab_J ab_TT ab_sets ab_WR w w := ⟨I, ab_fr.rf⟩
  have szm := szM_in I
  have hsz := R.sz
  have r2 := R.f2
  show aw none (d + 6) 179 _ (0, [some (.ref 65), some (.int b), some (.int sd), some (.int n), some (.int wh), none, none, none, none, none, none, none], []) w
  refine aw_step (f1 := (1, [some (.ref 65), some (.int b), some (.int sd), some (.int n), some (.int wh), none, none, none, none, none, none, none], [(.int b)])) (w1 := w) rfl rfl ?_
  refine s_cs (z := 116) (as := [(.int b)]) (st1 := []) 4 rfl rfl rfl rfl rfl rfl (Nat.le_of_ble_eq_true rfl) (Nat.le_of_ble_eq_true rfl) (Nat.le_of_ble_eq_true rfl) (q_areBoots b) ?_
  rintro _ _ ⟨rfl, x1, rfl, x1t⟩
  refine ⟨rfl, ?_⟩
  show aw none _ 179 _ (4, [some (.ref 65), some (.int b), some (.int sd), some (.int n), some (.int wh), none, none, none, none, none, none, none], [(.int x1)]) w
  refine s_if 9 7 rfl rfl rfl (fun (h2 : ¬ x1.toInt = 0) => ?_) (fun (h2 : ¬ (¬ x1.toInt = 0)) => ?_)
  · --
    refine aw_step (f1 := (10, [some (.ref 65), some (.int b), some (.int sd), some (.int n), some (.int wh), none, none, none, none, none, none, none], [(.int sd)])) (w1 := w) rfl rfl ?_
    refine s_l (pc1 := 11) (ls1 := [some (.ref 65), some (.int b), some (.int sd), some (.int n), some (.int wh), none, none, none, none, none, none, none]) (st1 := []) rfl rfl fun y3 e4 => ?_
    have e4t : y3.toInt = sd.toInt := by rw [e4]; exact Int32.toInt_toInt64 sd
    refine s_l (pc1 := 12) (ls1 := [some (.ref 65), some (.int b), some (.int sd), some (.int n), some (.int wh), none, none, none, none, none, none, none]) (st1 := [(.long y3)]) rfl rfl fun y5 e6 => ?_
    have e6t : y5.toInt = 0 := by rw [e6]; rfl
    refine s_l (pc1 := 15) (ls1 := [some (.ref 65), some (.int b), some (.int sd), some (.int n), some (.int wh), none, none, none, none, none, none, none]) (st1 := [(.long y5), (.long y3)]) rfl rfl fun y7 e8 => ?_
    have e8t : y7.toInt = 9999 := by rw [e8]; rfl
    refine s_cs (z := 108) (as := [(.long y3), (.long y5), (.long y7)]) (st1 := []) 18 rfl rfl rfl rfl rfl rfl (Nat.le_of_ble_eq_true rfl) (Nat.le_of_ble_eq_true rfl) (Nat.le_of_ble_eq_true rfl) (q_in2 y3 y5 y7) ?_
    rintro _ _ ⟨rfl, x9, rfl, x9t⟩
    refine ⟨rfl, ?_⟩
    show aw none _ 179 _ (18, [some (.ref 65), some (.int b), some (.int sd), some (.int n), some (.int wh), none, none, none, none, none, none, none], [(.int x9)]) w
    refine s_if 46 21 rfl rfl rfl (fun (h10 : x9.toInt = 0) => ?_) (fun (h10 : ¬ (x9.toInt = 0)) => ?_)
    · --
      refine s_i (pc1 := 48) (ls1 := [some (.ref 65), some (.int b), some (.int sd), some (.int n), some (.int wh), none, none, none, none, none, none, none]) (st1 := []) rfl rfl fun x11 e12 => ?_
      have e12t : x11.toInt = -2 := by rw [e12]; rfl
      refine aw_ret (v := some (.int x11)) rfl rfl ?_
      first
        | exact ⟨J, x11, rfl, Or.inl ⟨by omega, by omega⟩⟩
        | exact ⟨J, x11, rfl, Or.inr (Or.inl ⟨by omega, ⟨by omega, by omega⟩, by omega⟩)⟩
    · --
      refine aw_step (f1 := (22, [some (.ref 65), some (.int b), some (.int sd), some (.int n), some (.int wh), none, none, none, none, none, none, none], [(.int n)])) (w1 := w) rfl rfl ?_
      refine s_l (pc1 := 23) (ls1 := [some (.ref 65), some (.int b), some (.int sd), some (.int n), some (.int wh), none, none, none, none, none, none, none]) (st1 := []) rfl rfl fun y13 e14 => ?_
      have e14t : y13.toInt = n.toInt := by rw [e14]; exact Int32.toInt_toInt64 n
      refine s_l (pc1 := 24) (ls1 := [some (.ref 65), some (.int b), some (.int sd), some (.int n), some (.int wh), none, none, none, none, none, none, none]) (st1 := [(.long y13)]) rfl rfl fun y15 e16 => ?_
      have e16t : y15.toInt = 1 := by rw [e16]; rfl
      refine s_l (pc1 := 27) (ls1 := [some (.ref 65), some (.int b), some (.int sd), some (.int n), some (.int wh), none, none, none, none, none, none, none]) (st1 := [(.long y15), (.long y13)]) rfl rfl fun y17 e18 => ?_
      have e18t : y17.toInt = 99 := by rw [e18]; rfl
      refine s_cs (z := 108) (as := [(.long y13), (.long y15), (.long y17)]) (st1 := []) 30 rfl rfl rfl rfl rfl rfl (Nat.le_of_ble_eq_true rfl) (Nat.le_of_ble_eq_true rfl) (Nat.le_of_ble_eq_true rfl) (q_in2 y13 y15 y17) ?_
      rintro _ _ ⟨rfl, x19, rfl, x19t⟩
      refine ⟨rfl, ?_⟩
      show aw none _ 179 _ (30, [some (.ref 65), some (.int b), some (.int sd), some (.int n), some (.int wh), none, none, none, none, none, none, none], [(.int x19)]) w
      refine s_if 46 33 rfl rfl rfl (fun (h20 : x19.toInt = 0) => ?_) (fun (h20 : ¬ (x19.toInt = 0)) => ?_)
      · --
        refine s_i (pc1 := 48) (ls1 := [some (.ref 65), some (.int b), some (.int sd), some (.int n), some (.int wh), none, none, none, none, none, none, none]) (st1 := []) rfl rfl fun x21 e22 => ?_
        have e22t : x21.toInt = -2 := by rw [e22]; rfl
        refine aw_ret (v := some (.int x21)) rfl rfl ?_
        first
          | exact ⟨J, x21, rfl, Or.inl ⟨by omega, by omega⟩⟩
          | exact ⟨J, x21, rfl, Or.inr (Or.inl ⟨by omega, ⟨by omega, by omega⟩, by omega⟩)⟩
      · --
        refine aw_step (f1 := (35, [some (.ref 65), some (.int b), some (.int sd), some (.int n), some (.int wh), none, none, none, none, none, none, none], [(.int wh)])) (w1 := w) rfl rfl ?_
        refine s_l (pc1 := 36) (ls1 := [some (.ref 65), some (.int b), some (.int sd), some (.int n), some (.int wh), none, none, none, none, none, none, none]) (st1 := []) rfl rfl fun y23 e24 => ?_
        have e24t : y23.toInt = wh.toInt := by rw [e24]; exact Int32.toInt_toInt64 wh
        refine s_l (pc1 := 37) (ls1 := [some (.ref 65), some (.int b), some (.int sd), some (.int n), some (.int wh), none, none, none, none, none, none, none]) (st1 := [(.long y23)]) rfl rfl fun y25 e26 => ?_
        have e26t : y25.toInt = 0 := by rw [e26]; rfl
        refine s_l (pc1 := 40) (ls1 := [some (.ref 65), some (.int b), some (.int sd), some (.int n), some (.int wh), none, none, none, none, none, none, none]) (st1 := [(.long y25), (.long y23)]) rfl rfl fun y27 e28 => ?_
        have e28t : y27.toInt = 2 := by rw [e28]; rfl
        refine s_cs (z := 108) (as := [(.long y23), (.long y25), (.long y27)]) (st1 := []) 43 rfl rfl rfl rfl rfl rfl (Nat.le_of_ble_eq_true rfl) (Nat.le_of_ble_eq_true rfl) (Nat.le_of_ble_eq_true rfl) (q_in2 y23 y25 y27) ?_
        rintro _ _ ⟨rfl, x29, rfl, x29t⟩
        refine ⟨rfl, ?_⟩
        show aw none _ 179 _ (43, [some (.ref 65), some (.int b), some (.int sd), some (.int n), some (.int wh), none, none, none, none, none, none, none], [(.int x29)]) w
        refine s_if 49 46 rfl rfl rfl (fun (h30 : ¬ x29.toInt = 0) => ?_) (fun (h30 : ¬ (¬ x29.toInt = 0)) => ?_)
        · --
          refine aw_step (f1 := (50, [some (.ref 65), some (.int b), some (.int sd), some (.int n), some (.int wh), none, none, none, none, none, none, none], [(.ref 65)])) (w1 := w) rfl rfl ?_
          refine aw_step (f1 := (51, [some (.ref 65), some (.int b), some (.int sd), some (.int n), some (.int wh), none, none, none, none, none, none, none], [(.int b), (.ref 65)])) (w1 := w) rfl rfl ?_
          refine s_cv (z := 133) (p := 65) (as := [(.int b)]) (st1 := []) J 54 rfl rfl rfl rfl rfl rfl rfl rfl (Nat.le_of_ble_eq_true rfl) (Nat.le_of_ble_eq_true rfl) (q_putOn b ⟨by omega, by omega⟩ J.1) ?_
          rintro _ w31 ⟨rfl, J32c, w31o, w31p⟩
          have J32 := J.trans J32c
          refine ⟨am_len2 J J32c, ?_⟩
          show aw none _ 179 _ (54, [some (.ref 65), some (.int b), some (.int sd), some (.int n), some (.int wh), none, none, none, none, none, none, none], []) w31
          refine aw_step (f1 := (55, [some (.ref 65), some (.int b), some (.int sd), some (.int n), some (.int wh), none, none, none, none, none, none, none], [(.int sd)])) (w1 := w31) rfl rfl ?_
          refine aw_step (f1 := (57, [some (.ref 65), some (.int b), some (.int sd), some (.int n), some (.int wh), some (.int sd), none, none, none, none, none, none], [])) (w1 := w31) rfl rfl ?_
          refine aw_step (f1 := (58, [some (.ref 65), some (.int b), some (.int sd), some (.int n), some (.int wh), some (.int sd), none, none, none, none, none, none], [(.ref 65)])) (w1 := w31) rfl rfl ?_
          refine s_gi J32 61 rfl rfl rfl rfl rfl rfl fun x33 x33a x33b x33f => ?_
          have x33v : x33.toInt = fI w 65 3 := by rw [← fI_of x33f, w31o.fIe (by decide)]
          refine aw_step (f1 := (63, [some (.ref 65), some (.int b), some (.int sd), some (.int n), some (.int wh), some (.int sd), some (.int x33), none, none, none, none, none], [])) (w1 := w31) rfl rfl ?_
          refine s_l (pc1 := 64) (ls1 := [some (.ref 65), some (.int b), some (.int sd), some (.int n), some (.int wh), some (.int sd), some (.int x33), none, none, none, none, none]) (st1 := []) rfl rfl fun y34 e35 => ?_
          have e35t : y34.toInt = 1 := by rw [e35]; rfl
          --
          refine aw_step (f1 := (65, [some (.ref 65), some (.int b), some (.int sd), some (.int n), some (.int wh), some (.int sd), some (.int x33), none, none, none, none, none], [(.ref 65), (.long y34)])) (w1 := w31) rfl rfl ?_
          refine s_gi J32 68 rfl rfl rfl rfl rfl rfl fun x36 x36a x36b x36f => ?_
          have x36v : x36.toInt = fI w 65 3 := by rw [← fI_of x36f, w31o.fIe (by decide)]
          --
          refine s_l (pc1 := 69) (ls1 := [some (.ref 65), some (.int b), some (.int sd), some (.int n), some (.int wh), some (.int sd), some (.int x33), none, none, none, none, none]) (st1 := []) rfl rfl fun y37 e38 => ?_
          have e38 : y37 = y34 <<< (x36.toInt64 &&& 63) := e38
          have hb : n64 y37 = 2 ^ x36.toInt.toNat := by rw [e38]; exact n64_shl (by omega) (by omega) e35t
          refine aw_step (f1 := (71, [some (.ref 65), some (.int b), some (.int sd), some (.int n), some (.int wh), some (.int sd), some (.int x33), some (.long y37), none, none, none, none], [])) (w1 := w31) rfl rfl ?_
          refine s_i (pc1 := 72) (ls1 := [some (.ref 65), some (.int b), some (.int sd), some (.int n), some (.int wh), some (.int sd), some (.int x33), some (.long y37), none, none, none, none]) (st1 := []) rfl rfl fun x39 e40 => ?_
          have e40t : x39.toInt = 0 := by rw [e40]; rfl
          refine aw_step (f1 := (74, [some (.ref 65), some (.int b), some (.int sd), some (.int n), some (.int wh), some (.int sd), some (.int x33), some (.long y37), none, some (.int x39), none, none], [])) (w1 := w31) rfl rfl ?_
          refine s_i (pc1 := 75) (ls1 := [some (.ref 65), some (.int b), some (.int sd), some (.int n), some (.int wh), some (.int sd), some (.int x33), some (.long y37), none, some (.int x39), none, none]) (st1 := []) rfl rfl fun x41 e42 => ?_
          have e42t : x41.toInt = 0 := by rw [e42]; rfl
          refine aw_step (f1 := (77, [some (.ref 65), some (.int b), some (.int sd), some (.int n), some (.int wh), some (.int sd), some (.int x33), some (.long y37), none, some (.int x39), some (.int x41), none], [])) (w1 := w31) rfl rfl ?_
          have z1 : szM w31 = szV V := by rw [← hsz]; exact w31o.sz (by decide)
          have l67 : rI w 67 b.toInt.toNat = V (8 + 4 * b.toInt.toNat + 0) := R.ra (i := b.toInt.toNat) (c := 0) (by omega) (by decide)
          have lr := rowM_V R (by omega) w31p
          rw [l67] at lr
          exact f_yrL (R.wr I J32) b sd n wh lr ⟨by omega, by omega⟩ ⟨by omega, by omega⟩ ⟨by omega, by omega⟩ ⟨by omega, by omega⟩ J32 100 sd x33 y37 x39 x41 _ (by omega) (by omega) (by omega) ⟨by omega, by omega⟩ ⟨by omega, by omega⟩ ⟨by omega, by omega⟩ (by rw [show x33.toInt.toNat = (V 2).toNat by omega]; exact hhl) (by rw [show x41.toInt.toNat = 0 by omega]; exact ⟨rfl, by omega, by rw [hb, show x36.toInt.toNat = (V 2).toNat by omega], by omega⟩)
        · --
          refine s_i (pc1 := 48) (ls1 := [some (.ref 65), some (.int b), some (.int sd), some (.int n), some (.int wh), none, none, none, none, none, none, none]) (st1 := []) rfl rfl fun x43 e44 => ?_
          have e44t : x43.toInt = -2 := by rw [e44]; rfl
          refine aw_ret (v := some (.int x43)) rfl rfl ?_
          first
            | exact ⟨J, x43, rfl, Or.inl ⟨by omega, by omega⟩⟩
            | exact ⟨J, x43, rfl, Or.inr (Or.inl ⟨by omega, ⟨by omega, by omega⟩, by omega⟩)⟩
  · --
    refine s_i (pc1 := 8) (ls1 := [some (.ref 65), some (.int b), some (.int sd), some (.int n), some (.int wh), none, none, none, none, none, none, none]) (st1 := []) rfl rfl fun x45 e46 => ?_
    have e46t : x45.toInt = -1 := by rw [e46]; rfl
    refine aw_ret (v := some (.int x45)) rfl rfl ?_
    first
      | exact ⟨J, x45, rfl, Or.inl ⟨by omega, by omega⟩⟩
      | exact ⟨J, x45, rfl, Or.inr (Or.inl ⟨by omega, ⟨by omega, by omega⟩, by omega⟩)⟩
