/-! ===== the model's search; reached ===== -/
/-- bits of the model's rows of leads -/
noncomputable def lrV (V : Nat → Int) (L : Int) (l : Nat → Nat) : Prop := ∀ b j : Nat, (b : Int) < szV V → (bt (l b) j = 1 ↔ V (40 + b) ≠ 126 ∧ eV V L b j)
theorem rowM_V {w w1 : am_W} {V : Nat → Int} {L : Int} {p : Nat} (R : RMs w V) (hz : szV V ≤ 36) (h : rowM w L p w1 (szM w)) : lrV V L (rL w1 p) := by
  intro b j hb
  have hs := R.sz
  rcases h b (by omega) with ⟨q1, q2⟩ | ⟨q1, q2⟩
  · have l := ldsM_V R hz q2 j
    have b1 := q1.2.2
    rw [R.rc (i := ((b : Nat) : Int).toNat) (by omega), show ((b : Nat) : Int).toNat = b by omega] at b1
    exact l.trans ⟨fun z => ⟨b1, z⟩, fun z => z.2⟩
  · rw [q2, bt_z]
    refine ⟨fun z => by omega, fun z => absurd ?_ q1⟩
    refine ⟨by omega, by omega, ?_⟩
    rw [R.rc (i := ((b : Nat) : Int).toNat) (by omega), show ((b : Nat) : Int).toNat = b by omega]
    exact z.1
/-- the model's far is the distance -/
noncomputable def dmV (V : Nat → Int) (L : Int) (f : Nat) (r : Nat → Int) : Prop := (∀ n j : Nat, n < 1000 → wV V L f n j → r j ≤ n) ∧ ∀ d j : Nat, j < 36 → r j = d → d < 1000 → wV V L f d j
theorem fPost_V {V : Nat → Int} {L : Int} {f : Nat} {l : Nat → Nat} {r : Nat → Int} (hz : szV V ≤ 36) (hf : (f : Int) < szV V ∧ V (40 + f) ≠ 126) (hl : lrV V L l) (h : fPost (szV V) f l r) : dmV V L f r := by
  obtain ⟨h1, h2, h3, h4⟩ := h
  constructor
  · intro n
    induction n with
    | zero => intro j _ a; have a : j = f := a; rw [a, h2 hf.1]; exact Int.le_refl _
    | succ n ih =>
      intro j hn a
      rcases a with a | ⟨i, a1, a2⟩
      · have := ih j (by omega) a; omega
      · have b := ih i (by omega) a1
        have li := wV_ld hf a1
        have := h4 i j li.1 a2.1.1 (by omega) ((hl i j li.1).mpr ⟨li.2, a2⟩)
        omega
  · intro d
    induction d with
    | zero =>
      intro j hj e _
      rcases h3 j hj (by omega) with q | ⟨b, b1, b2, b3⟩
      · exact q.2
      · have := h1 b (by omega); omega
    | succ d ih =>
      intro j hj e hd
      rcases h3 j hj (by omega) with q | ⟨b, b1, b2, b3⟩
      · omega
      · exact Or.inr ⟨b, ih b (by omega) (by omega) (by omega), ((hl b j b1).mp b3).2⟩
theorem dmV_36 {V : Nat → Int} {L : Int} {f : Nat} {r : Nat → Int} (h : dmV V L f r) (hr : ∀ j : Nat, j < 36 → r j = 100000 ∨ (0 ≤ r j ∧ r j < 36)) {j : Nat} (hj : j < 36) : r j < 100000 ↔ wV V L f 36 j := by
  constructor
  · intro q
    have a := hr j hj
    exact wV_le (n := (r j).toNat) (by omega) (h.2 _ j hj (by omega) (by omega))
  · intro q
    have := h.1 36 j (by omega) q
    omega
noncomputable def reaP (V : Nat → Int) (b f z : Int) : Prop := (z = -1000000000000000001 ∧ ((b < 0 ∨ 3 < b) ∨ f < 0 ∨ szV V ≤ f ∨ V (40 + f.toNat) = 126)) ∨ ((0 ≤ b ∧ b ≤ 3) ∧ (0 ≤ f ∧ f < szV V ∧ V (40 + f.toNat) ≠ 126) ∧ ∃ x : Nat, (∀ j, bt x j = 1 ↔ wV V (V (8 + 4 * b.toNat + 0)) f.toNat 36 j) ∧ z = (x : Int))
theorem U_reached {V : Nat → Int} {b f z z2 : Int} (h : reaP V b f z) (g : reaP V b f z2) : z2 = z := by
  rcases h with h | ⟨h1, h2, x, h3, h4⟩ <;> rcases g with g | ⟨g1, g2, x2, g3, g4⟩
  · omega
  · omega
  · omega
  · rw [h4, g4, bt_un g3 h3]
theorem e_canTravel {d : Nat} {w : am_W} {V : Nat → Int} (R : RCs w 3 V) (b f t : Int32) (I : ab_inv ab_TT ab_sets w) : aw none (d + 3) 97 (fun r w1 => w = w1 ∧ ∃ z : Int32, r = some (.int z) ∧ ((z.toInt = 1 ∧ (0 ≤ b.toInt ∧ b.toInt ≤ 3) ∧ (0 ≤ f.toInt ∧ f.toInt < szV V ∧ V (40 + f.toInt.toNat) ≠ 126) ∧ (0 ≤ t.toInt ∧ t.toInt < szV V ∧ V (40 + t.toInt.toNat) ≠ 126)) ∨ (z.toInt = 0 ∧ ((b.toInt < 0 ∨ 3 < b.toInt) ∨ (f.toInt < 0 ∨ szV V ≤ f.toInt ∨ V (40 + f.toInt.toNat) = 126) ∨ (t.toInt < 0 ∨ szV V ≤ t.toInt ∨ V (40 + t.toInt.toNat) = 126))))) (0, am_entry 97 [.ref 0, .int b, .int f, .int t], []) w := by
  have J : ab_J ab_TT ab_sets ab_WR w w := ⟨I, ab_fr.rf⟩
  show aw none (d + 3) 97 _ (0, [some (.ref 0), some (.int b), some (.int f), some (.int t)], []) w
  refine aw_step (f1 := (1, [some (.ref 0), some (.int b), some (.int f), some (.int t)], [(.int b)])) (w1 := w) rfl rfl ?_
  refine s_cs (z := 103) (as := [(.int b)]) (st1 := []) 4 rfl rfl rfl rfl rfl rfl (Nat.le_of_ble_eq_true rfl) (Nat.le_of_ble_eq_true rfl) (Nat.le_of_ble_eq_true rfl) (q_isBoots b) ?_
  rintro _ _ ⟨rfl, x1, rfl, x1t⟩
  refine ⟨rfl, ?_⟩
  show aw none _ 97 _ (4, [some (.ref 0), some (.int b), some (.int f), some (.int t)], [(.int x1)]) w
  refine s_if 33 7 rfl rfl rfl (fun (h2 : x1.toInt = 0) => ?_) (fun (h2 : ¬ (x1.toInt = 0)) => ?_)
  · --
    refine s_i (pc1 := 34) (ls1 := [some (.ref 0), some (.int b), some (.int f), some (.int t)]) (st1 := []) rfl rfl fun x3 e4 => ?_
    have e4t : x3.toInt = 0 := by rw [e4]; rfl
    refine aw_ret (v := some (.int x3)) rfl (am_retz (by omega)) ?_
    exact ⟨rfl, x3, rfl, by omega⟩
  · --
    refine aw_step (f1 := (8, [some (.ref 0), some (.int b), some (.int f), some (.int t)], [(.ref 0)])) (w1 := w) rfl rfl ?_
    refine s_gr 3 J 11 rfl rfl rfl rfl rfl rfl ?_
    refine aw_step (f1 := (12, [some (.ref 0), some (.int b), some (.int f), some (.int t)], [(.int f), (.ref 3)])) (w1 := w) rfl rfl ?_
    refine s_cv (z := 40) (p := 3) (as := [(.int f)]) (st1 := []) J 15 rfl rfl rfl rfl rfl rfl rfl rfl (Nat.le_of_ble_eq_true rfl) (Nat.le_of_ble_eq_true rfl) (q_isDry R f J.1) ?_
    rintro _ _ ⟨rfl, x5, rfl, x5t⟩
    refine ⟨rfl, ?_⟩
    show aw none _ 97 _ (15, [some (.ref 0), some (.int b), some (.int f), some (.int t)], [(.int x5)]) w
    refine s_if 33 18 rfl rfl rfl (fun (h6 : x5.toInt = 0) => ?_) (fun (h6 : ¬ (x5.toInt = 0)) => ?_)
    · --
      refine s_i (pc1 := 34) (ls1 := [some (.ref 0), some (.int b), some (.int f), some (.int t)]) (st1 := []) rfl rfl fun x7 e8 => ?_
      have e8t : x7.toInt = 0 := by rw [e8]; rfl
      refine aw_ret (v := some (.int x7)) rfl (am_retz (by omega)) ?_
      exact ⟨rfl, x7, rfl, by omega⟩
    · --
      refine aw_step (f1 := (19, [some (.ref 0), some (.int b), some (.int f), some (.int t)], [(.ref 0)])) (w1 := w) rfl rfl ?_
      refine s_gr 3 J 22 rfl rfl rfl rfl rfl rfl ?_
      refine aw_step (f1 := (23, [some (.ref 0), some (.int b), some (.int f), some (.int t)], [(.int t), (.ref 3)])) (w1 := w) rfl rfl ?_
      refine s_cv (z := 40) (p := 3) (as := [(.int t)]) (st1 := []) J 26 rfl rfl rfl rfl rfl rfl rfl rfl (Nat.le_of_ble_eq_true rfl) (Nat.le_of_ble_eq_true rfl) (q_isDry R t J.1) ?_
      rintro _ _ ⟨rfl, x9, rfl, x9t⟩
      refine ⟨rfl, ?_⟩
      show aw none _ 97 _ (26, [some (.ref 0), some (.int b), some (.int f), some (.int t)], [(.int x9)]) w
      refine s_if 33 29 rfl rfl rfl (fun (h10 : x9.toInt = 0) => ?_) (fun (h10 : ¬ (x9.toInt = 0)) => ?_)
      · --
        refine s_i (pc1 := 34) (ls1 := [some (.ref 0), some (.int b), some (.int f), some (.int t)]) (st1 := []) rfl rfl fun x11 e12 => ?_
        have e12t : x11.toInt = 0 := by rw [e12]; rfl
        refine aw_ret (v := some (.int x11)) rfl (am_retz (by omega)) ?_
        exact ⟨rfl, x11, rfl, by omega⟩
      · --
        refine s_i (pc1 := 30) (ls1 := [some (.ref 0), some (.int b), some (.int f), some (.int t)]) (st1 := []) rfl rfl fun x13 e14 => ?_
        have e14t : x13.toInt = 1 := by rw [e14]; rfl
        refine aw_step (f1 := (34, [some (.ref 0), some (.int b), some (.int f), some (.int t)], [(.int x13)])) (w1 := w) rfl rfl ?_
        refine aw_ret (v := some (.int x13)) rfl (am_retz (by omega)) ?_
        exact ⟨rfl, x13, rfl, by omega⟩
theorem e_reached {d : Nat} {w : am_W} {V : Nat → Int} (R : RCs w 3 V) (b f : Int32) (I : ab_inv ab_TT ab_sets w) : aw none (d + 5) 74 (fun r w1 => ab_J ab_TT ab_sets ab_WR w w1 ∧ ∃ z : Int64, r = some (.long z) ∧ reaP V b.toInt f.toInt z.toInt) (0, am_entry 74 [.ref 0, .int b, .int f], []) w := by
  have J : ab_J ab_TT ab_sets ab_WR w w := ⟨I, ab_fr.rf⟩
  have szc := szC_in I
  have hsz := R.sz
  show aw none (d + 5) 74 _ (0, [some (.ref 0), some (.int b), some (.int f)], []) w
  refine aw_step (f1 := (1, [some (.ref 0), some (.int b), some (.int f)], [(.ref 0)])) (w1 := w) rfl rfl ?_
  refine aw_step (f1 := (2, [some (.ref 0), some (.int b), some (.int f)], [(.int b), (.ref 0)])) (w1 := w) rfl rfl ?_
  refine aw_step (f1 := (3, [some (.ref 0), some (.int b), some (.int f)], [(.int f), (.int b), (.ref 0)])) (w1 := w) rfl rfl ?_
  refine aw_step (f1 := (4, [some (.ref 0), some (.int b), some (.int f)], [(.int f), (.int f), (.int b), (.ref 0)])) (w1 := w) rfl rfl ?_
  refine s_cv (z := 97) (p := 0) (as := [(.int b), (.int f), (.int f)]) (st1 := []) J 7 rfl rfl rfl rfl rfl rfl rfl rfl (Nat.le_of_ble_eq_true rfl) (Nat.le_of_ble_eq_true rfl) (e_canTravel R b f f J.1) ?_
  rintro _ _ ⟨rfl, x1, rfl, x1t⟩
  refine ⟨rfl, ?_⟩
  show aw none _ 74 _ (7, [some (.ref 0), some (.int b), some (.int f)], [(.int x1)]) w
  refine s_if 14 10 rfl rfl rfl (fun (h2 : ¬ x1.toInt = 0) => ?_) (fun (h2 : ¬ (¬ x1.toInt = 0)) => ?_)
  · --
    refine aw_step (f1 := (15, [some (.ref 0), some (.int b), some (.int f)], [(.ref 0)])) (w1 := w) rfl rfl ?_
    refine s_gr 18 J 18 rfl rfl rfl rfl rfl rfl ?_
    refine aw_step (f1 := (19, [some (.ref 0), some (.int b), some (.int f)], [(.ref 0), (.ref 18)])) (w1 := w) rfl rfl ?_
    refine s_gr 3 J 22 rfl rfl rfl rfl rfl rfl ?_
    refine aw_step (f1 := (23, [some (.ref 0), some (.int b), some (.int f)], [(.ref 0), (.ref 3), (.ref 18)])) (w1 := w) rfl rfl ?_
    refine s_gr 3 J 26 rfl rfl rfl rfl rfl rfl ?_
    refine s_gr 7 J 29 rfl rfl rfl rfl rfl rfl ?_
    refine aw_step (f1 := (30, [some (.ref 0), some (.int b), some (.int f)], [(.int b), (.ref 7), (.ref 3), (.ref 18)])) (w1 := w) rfl rfl ?_
    refine s_ia J 31 rfl rfl rfl rfl (by omega) (by omega) fun x3 x3a x3b x3f => ?_
    have x3v : x3.toInt = rI w 7 b.toInt.toNat := by rw [← rI_of x3f]
    have hl : x3.toInt = V (8 + 4 * b.toInt.toNat + 0) := by rw [x3v]; exact R.rv (r := 4) (i := b.toInt.toNat) (by decide) (by decide) (by omega) (by show b.toInt.toNat < 4; omega)
    refine aw_step (f1 := (32, [some (.ref 0), some (.int b), some (.int f)], [(.int f), (.int x3), (.ref 3), (.ref 18)])) (w1 := w) rfl rfl ?_
    refine s_cv (z := 22) (p := 18) (as := [(.ref 3), (.int x3), (.int f)]) (st1 := []) J 35 rfl rfl rfl rfl rfl rfl rfl rfl (Nat.le_of_ble_eq_true rfl) (Nat.le_of_ble_eq_true rfl) (e_measure R x3 f ⟨by omega, by omega⟩ ⟨by omega, by omega⟩ J.1) ?_
    rintro _ w5 ⟨J6c, w5o, y4, rfl, y4t, w5p⟩
    have J6 := J.trans J6c
    refine ⟨am_len2 J J6c, ?_⟩
    show aw none _ 74 _ (35, [some (.ref 0), some (.int b), some (.int f)], [(.long y4)]) w5
    refine aw_ret (v := some (.long y4)) rfl rfl ?_
    rw [hl] at y4t
    have x36 : n64 y4 < 2 ^ 36 := bt_lt fun j hj => by have := wV_sz (by omega) ((y4t j).mp hj); omega
    exact ⟨J6, y4, rfl, Or.inr ⟨⟨by omega, by omega⟩, ⟨by omega, by omega, by omega⟩, n64 y4, y4t, l_36 x36⟩⟩
  · --
    refine s_l (pc1 := 13) (ls1 := [some (.ref 0), some (.int b), some (.int f)]) (st1 := []) rfl rfl fun y7 e8 => ?_
    have e8t : y7.toInt = -1000000000000000001 := by rw [e8]; rfl
    refine aw_ret (v := some (.long y7)) rfl rfl ?_
    exact ⟨J, y7, rfl, Or.inl ⟨by omega, by omega⟩⟩
/-- a set that is told by a row, so far -/
noncomputable def rsI (r : Nat → Int) (i : Int) (y : Nat) : Prop := ∀ j : Nat, bt y j = 1 ↔ (j : Int) < i ∧ r j < 100000
theorem f_reaL {d : Nat} {w : am_W} {Q : Option Value → am_W → Prop} (b f : Int32) (J : ab_J ab_TT ab_sets ab_WR w w) (K : ∀ y : Int64, rsI (rI w 77) (szM w) (n64 y) → Q (some (.long y)) w) : ∀ (m : Nat) (y : Int64) (c : Int32), (szM w - c.toInt).toNat < m → 0 ≤ c.toInt → c.toInt ≤ szM w → rsI (rI w 77) c.toInt (n64 y) → aw none (d + 1) 145 Q (34, [some (.ref 65), some (.int b), some (.int f), some (.long y), none, some (.int c)], []) w := by
  have szm := szM_in J.1
  intro m
  induction m with
  | zero => intro y c p; omega
  | succ m ih =>
    intro y c p1 p2 p3 F
    refine aw_step (f1 := (36, [some (.ref 65), some (.int b), some (.int f), some (.long y), none, some (.int c)], [(.int c)])) (w1 := w) rfl rfl ?_
    refine aw_step (f1 := (37, [some (.ref 65), some (.int b), some (.int f), some (.long y), none, some (.int c)], [(.ref 65), (.int c)])) (w1 := w) rfl rfl ?_
    refine s_cv (z := 113) (p := 65) (as := []) (st1 := [(.int c)]) J 40 rfl rfl rfl rfl rfl rfl rfl rfl (Nat.le_of_ble_eq_true rfl) (Nat.le_of_ble_eq_true rfl) (q_cells J.1) ?_
    rintro _ _ ⟨rfl, x1, rfl, x1t⟩
    refine ⟨rfl, ?_⟩
    show aw none _ 145 _ (40, [some (.ref 65), some (.int b), some (.int f), some (.long y), none, some (.int c)], [(.int x1), (.int c)]) w
    have x1s := szM_in J.1
    refine s_ic 72 43 rfl rfl rfl (fun (h2 : x1.toInt ≤ c.toInt) => ?_) (fun (h2 : ¬ (x1.toInt ≤ c.toInt)) => ?_)
    · --
      refine aw_step (f1 := (73, [some (.ref 65), some (.int b), some (.int f), some (.long y), none, some (.int c)], [(.long y)])) (w1 := w) rfl rfl ?_
      refine aw_ret (v := some (.long y)) rfl rfl ?_
      rw [show c.toInt = szM w by omega] at F
      exact K y F
    · --
      refine aw_step (f1 := (44, [some (.ref 65), some (.int b), some (.int f), some (.long y), none, some (.int c)], [(.long y)])) (w1 := w) rfl rfl ?_
      refine aw_step (f1 := (45, [some (.ref 65), some (.int b), some (.int f), some (.long y), none, some (.int c)], [(.ref 65), (.long y)])) (w1 := w) rfl rfl ?_
      refine s_gr 77 J 48 rfl rfl rfl rfl rfl rfl ?_
      refine aw_step (f1 := (50, [some (.ref 65), some (.int b), some (.int f), some (.long y), none, some (.int c)], [(.int c), (.ref 77), (.long y)])) (w1 := w) rfl rfl ?_
      refine s_ia J 51 rfl rfl rfl rfl (by omega) (by omega) fun x3 x3a x3b x3f => ?_
      have x3v : x3.toInt = rI w 77 c.toInt.toNat := by rw [← rI_of x3f]
      refine s_i (pc1 := 53) (ls1 := [some (.ref 65), some (.int b), some (.int f), some (.long y), none, some (.int c)]) (st1 := [(.int x3), (.long y)]) rfl rfl fun x4 e5 => ?_
      have e5t : x4.toInt = 100000 := by rw [e5]; rfl
      refine s_ic 63 56 rfl rfl rfl (fun (h6 : x4.toInt ≤ x3.toInt) => ?_) (fun (h6 : ¬ (x4.toInt ≤ x3.toInt)) => ?_)
      · --
        --
        refine s_l (pc1 := 64) (ls1 := [some (.ref 65), some (.int b), some (.int f), some (.long y), none, some (.int c)]) (st1 := [(.long y)]) rfl rfl fun y7 e8 => ?_
        have e8t : y7.toInt = 0 := by rw [e8]; rfl
        --
        refine s_l (pc1 := 65) (ls1 := [some (.ref 65), some (.int b), some (.int f), some (.long y), none, some (.int c)]) (st1 := []) rfl rfl fun y9 e10 => ?_
        have e10 : y9 = y ||| y7 := e10
        refine aw_step (f1 := (66, [some (.ref 65), some (.int b), some (.int f), some (.long y9), none, some (.int c)], [])) (w1 := w) rfl rfl ?_
        refine aw_step (f1 := (69, [some (.ref 65), some (.int b), some (.int f), some (.long y9), none, some (.int (c + Int32.ofInt 1))], [])) (w1 := w) rfl rfl ?_
        obtain ⟨x11, x11e⟩ : ∃ z, z = (c + Int32.ofInt 1) := ⟨_, rfl⟩
        have x11t : x11.toInt = c.toInt + (1) := by rw [x11e]; exact n_add (y := Int32.ofInt (1)) (by show _ ≤ _ + (1 : Int); omega) (by show _ + (1 : Int) ≤ _; omega)
        rw [← x11e]
        refine aw_step (f1 := (34, [some (.ref 65), some (.int b), some (.int f), some (.long y9), none, some (.int x11)], [])) (w1 := w) rfl rfl ?_
        have hb : n64 y7 = 0 := n64_z.mp e8t
        exact ih y9 x11 (by omega) (by omega) (by omega) (by rw [show x11.toInt = c.toInt + 1 by omega]; exact bt_no F (by omega) (by omega) (by rw [e10, n64_or, hb]))
      · --
        refine s_l (pc1 := 57) (ls1 := [some (.ref 65), some (.int b), some (.int f), some (.long y), none, some (.int c)]) (st1 := [(.long y)]) rfl rfl fun y12 e13 => ?_
        have e13t : y12.toInt = 1 := by rw [e13]; rfl
        --
        refine aw_step (f1 := (59, [some (.ref 65), some (.int b), some (.int f), some (.long y), none, some (.int c)], [(.int c), (.long y12), (.long y)])) (w1 := w) rfl rfl ?_
        refine s_l (pc1 := 60) (ls1 := [some (.ref 65), some (.int b), some (.int f), some (.long y), none, some (.int c)]) (st1 := [(.long y)]) rfl rfl fun y14 e15 => ?_
        have e15 : y14 = y12 <<< (c.toInt64 &&& 63) := e15
        refine aw_step (f1 := (64, [some (.ref 65), some (.int b), some (.int f), some (.long y), none, some (.int c)], [(.long y14), (.long y)])) (w1 := w) rfl rfl ?_
        --
        refine s_l (pc1 := 65) (ls1 := [some (.ref 65), some (.int b), some (.int f), some (.long y), none, some (.int c)]) (st1 := []) rfl rfl fun y16 e17 => ?_
        have e17 : y16 = y ||| y14 := e17
        refine aw_step (f1 := (66, [some (.ref 65), some (.int b), some (.int f), some (.long y16), none, some (.int c)], [])) (w1 := w) rfl rfl ?_
        refine aw_step (f1 := (69, [some (.ref 65), some (.int b), some (.int f), some (.long y16), none, some (.int (c + Int32.ofInt 1))], [])) (w1 := w) rfl rfl ?_
        obtain ⟨x18, x18e⟩ : ∃ z, z = (c + Int32.ofInt 1) := ⟨_, rfl⟩
        have x18t : x18.toInt = c.toInt + (1) := by rw [x18e]; exact n_add (y := Int32.ofInt (1)) (by show _ ≤ _ + (1 : Int); omega) (by show _ + (1 : Int) ≤ _; omega)
        rw [← x18e]
        refine aw_step (f1 := (34, [some (.ref 65), some (.int b), some (.int f), some (.long y16), none, some (.int x18)], [])) (w1 := w) rfl rfl ?_
        have hb : n64 y14 = 2 ^ c.toInt.toNat := by rw [e15]; exact n64_shl (by omega) (by omega) e13t
        exact ih y16 x18 (by omega) (by omega) (by omega) (by rw [show x18.toInt = c.toInt + 1 by omega]; exact bt_ye F (by omega) (by omega) (by rw [e17, n64_or, hb]))
theorem f_reached {d : Nat} {w : am_W} {V : Nat → Int} (R : RMs w V) (b f : Int32) (I : ab_inv ab_TT ab_sets w) : aw none (d + 6) 145 (fun r w1 => ab_J ab_TT ab_sets ab_WR w w1 ∧ ∃ z : Int64, r = some (.long z) ∧ reaP V b.toInt f.toInt z.toInt) (0, am_entry 145 [.ref 65, .int b, .int f], []) w := by
  have J : ab_J ab_TT ab_sets ab_WR w w := ⟨I, ab_fr.rf⟩
  have szm := szM_in I
  have hsz := R.sz
  have hl0 : ∀ c : Int32, 0 ≤ c.toInt → c.toInt < szV V → rI w 66 c.toInt.toNat = V (40 + c.toInt.toNat) := fun c a b => R.rc (by omega)
  show aw none (d + 6) 145 _ (0, [some (.ref 65), some (.int b), some (.int f), none, none, none], []) w
  refine aw_step (f1 := (1, [some (.ref 65), some (.int b), some (.int f), none, none, none], [(.int b)])) (w1 := w) rfl rfl ?_
  refine s_cs (z := 116) (as := [(.int b)]) (st1 := []) 4 rfl rfl rfl rfl rfl rfl (Nat.le_of_ble_eq_true rfl) (Nat.le_of_ble_eq_true rfl) (Nat.le_of_ble_eq_true rfl) (q_areBoots b) ?_
  rintro _ _ ⟨rfl, x1, rfl, x1t⟩
  refine ⟨rfl, ?_⟩
  show aw none _ 145 _ (4, [some (.ref 65), some (.int b), some (.int f), none, none, none], [(.int x1)]) w
  refine s_if 15 7 rfl rfl rfl (fun (h2 : x1.toInt = 0) => ?_) (fun (h2 : ¬ (x1.toInt = 0)) => ?_)
  · --
    refine s_l (pc1 := 18) (ls1 := [some (.ref 65), some (.int b), some (.int f), none, none, none]) (st1 := []) rfl rfl fun y3 e4 => ?_
    have e4t : y3.toInt = -1000000000000000001 := by rw [e4]; rfl
    refine aw_ret (v := some (.long y3)) rfl rfl ?_
    exact ⟨J, y3, rfl, Or.inl ⟨by omega, by have := hl0 f; omega⟩⟩
  · --
    refine aw_step (f1 := (8, [some (.ref 65), some (.int b), some (.int f), none, none, none], [(.ref 65)])) (w1 := w) rfl rfl ?_
    refine aw_step (f1 := (9, [some (.ref 65), some (.int b), some (.int f), none, none, none], [(.int f), (.ref 65)])) (w1 := w) rfl rfl ?_
    refine s_cv (z := 115) (p := 65) (as := [(.int f)]) (st1 := []) J 12 rfl rfl rfl rfl rfl rfl rfl rfl (Nat.le_of_ble_eq_true rfl) (Nat.le_of_ble_eq_true rfl) (q_isLand f J.1) ?_
    rintro _ _ ⟨rfl, x5, rfl, x5t⟩
    refine ⟨rfl, ?_⟩
    show aw none _ 145 _ (12, [some (.ref 65), some (.int b), some (.int f), none, none, none], [(.int x5)]) w
    have x5s := szM_in J.1
    refine s_if 19 15 rfl rfl rfl (fun (h6 : ¬ x5.toInt = 0) => ?_) (fun (h6 : ¬ (¬ x5.toInt = 0)) => ?_)
    · --
      refine aw_step (f1 := (20, [some (.ref 65), some (.int b), some (.int f), none, none, none], [(.ref 65)])) (w1 := w) rfl rfl ?_
      refine aw_step (f1 := (21, [some (.ref 65), some (.int b), some (.int f), none, none, none], [(.int b), (.ref 65)])) (w1 := w) rfl rfl ?_
      refine s_cv (z := 133) (p := 65) (as := [(.int b)]) (st1 := []) J 24 rfl rfl rfl rfl rfl rfl rfl rfl (Nat.le_of_ble_eq_true rfl) (Nat.le_of_ble_eq_true rfl) (q_putOn b ⟨by omega, by omega⟩ J.1) ?_
      rintro _ w7 ⟨rfl, J8c, w7o, w7p⟩
      have J8 := J.trans J8c
      refine ⟨am_len2 J J8c, ?_⟩
      show aw none _ 145 _ (24, [some (.ref 65), some (.int b), some (.int f), none, none, none], []) w7
      refine aw_step (f1 := (25, [some (.ref 65), some (.int b), some (.int f), none, none, none], [(.ref 65)])) (w1 := w7) rfl rfl ?_
      refine aw_step (f1 := (26, [some (.ref 65), some (.int b), some (.int f), none, none, none], [(.int f), (.ref 65)])) (w1 := w7) rfl rfl ?_
      refine s_cv (z := 142) (p := 65) (as := [(.int f)]) (st1 := []) J8 29 rfl rfl rfl rfl rfl rfl rfl rfl (Nat.le_of_ble_eq_true rfl) (Nat.le_of_ble_eq_true rfl) (q_findFar f ⟨by omega, by omega⟩ J8.1) ?_
      rintro _ w9 ⟨rfl, J10c, w9o, w9p⟩
      have J10 := J8.trans J10c
      refine ⟨am_len2 J8 J10c, ?_⟩
      show aw none _ 145 _ (29, [some (.ref 65), some (.int b), some (.int f), none, none, none], []) w9
      refine s_l (pc1 := 30) (ls1 := [some (.ref 65), some (.int b), some (.int f), none, none, none]) (st1 := []) rfl rfl fun y11 e12 => ?_
      have e12t : y11.toInt = 0 := by rw [e12]; rfl
      refine aw_step (f1 := (31, [some (.ref 65), some (.int b), some (.int f), some (.long y11), none, none], [])) (w1 := w9) rfl rfl ?_
      refine s_i (pc1 := 32) (ls1 := [some (.ref 65), some (.int b), some (.int f), some (.long y11), none, none]) (st1 := []) rfl rfl fun x13 e14 => ?_
      have e14t : x13.toInt = 0 := by rw [e14]; rfl
      refine aw_step (f1 := (34, [some (.ref 65), some (.int b), some (.int f), some (.long y11), none, some (.int x13)], [])) (w1 := w9) rfl rfl ?_
      have O1 := w7o
      have O2 := w9o
      have z1 : szM w7 = szV V := by rw [← hsz]; exact O1.sz (by decide)
      have z2 : szM w9 = szV V := by rw [← z1]; exact O2.sz (by decide)
      have l67 : rI w 67 b.toInt.toNat = V (8 + 4 * b.toInt.toNat + 0) := R.ra (i := b.toInt.toNat) (c := 0) (by omega) (by decide)
      have lr := rowM_V R (by omega) w7p
      rw [l67] at lr
      have fp := w9p
      rw [z1] at fp
      have dm := fPost_V (by omega) ⟨by omega, by have := hl0 f; first | omega | (rw [← hl0 f (by omega) (by omega)]; omega)⟩ lr fp
      refine f_reaL b f ⟨J10.1, ab_fr.rf⟩ (fun y F => ?_) 37 y11 x13 (by omega) (by omega) (by omega) (fun j => ⟨fun q => by rw [n64_z.mp (by omega), bt_z] at q; omega, fun q => by omega⟩)
      have key : ∀ j, bt (n64 y) j = 1 ↔ wV V (V (8 + 4 * b.toInt.toNat + 0)) f.toInt.toNat 36 j := fun j => by
        have fj := F j
        rw [z2] at fj
        constructor
        · intro q
          have := fj.mp q
          exact (dmV_36 dm (fun j hj => by have := fp.1 j hj; omega) (by omega)).mp this.2
        · intro q
          have s := wV_sz (by omega) q
          exact fj.mpr ⟨s, (dmV_36 dm (fun j hj => by have := fp.1 j hj; omega) (by omega)).mpr q⟩
      have x36 : n64 y < 2 ^ 36 := bt_lt fun j hj => by have := wV_sz (by omega) ((key j).mp hj); omega
      exact ⟨J10, y, rfl, Or.inr ⟨⟨by omega, by omega⟩, ⟨by omega, by omega, by have := hl0 f; first | omega | (rw [← hl0 f (by omega) (by omega)]; omega)⟩, n64 y, key, l_36 x36⟩⟩
    · --
      refine s_l (pc1 := 18) (ls1 := [some (.ref 65), some (.int b), some (.int f), none, none, none]) (st1 := []) rfl rfl fun y15 e16 => ?_
      have e16t : y15.toInt = -1000000000000000001 := by rw [e16]; rfl
      refine aw_ret (v := some (.long y15)) rfl rfl ?_
      exact ⟨J, y15, rfl, Or.inl ⟨by omega, by have := hl0 f; omega⟩⟩
