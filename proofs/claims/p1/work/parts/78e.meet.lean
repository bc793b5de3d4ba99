/-! ===== meet ===== -/
/-- the strides from f to j, or -6 -/
noncomputable def dsV (V : Nat → Int) (L : Int) (f j : Nat) (c : Int) : Prop := (c = -6 ∧ ¬ wV V L f 36 j) ∨ ∃ d : Nat, c = d ∧ d ≤ 36 ∧ frV V L f d j
theorem dsV.uniq {V : Nat → Int} {L : Int} {f j : Nat} {a b : Int} (h : dsV V L f j a) (g : dsV V L f j b) : b = a := by
  rcases h with ⟨h1, h2⟩ | ⟨d, h1, h2, h3⟩ <;> rcases g with ⟨g1, g2⟩ | ⟨e, g1, g2, g3⟩
  · omega
  · exact absurd (wV_le g2 g3.1) h2
  · exact absurd (wV_le h2 h3.1) g2
  · rw [h1, g1, frV_un h3 g3]
theorem dsV.b {V : Nat → Int} {L : Int} {f j : Nat} {a : Int} (h : dsV V L f j a) : a = -6 ∨ (0 ≤ a ∧ a ≤ 36) := by
  rcases h with ⟨h1, h2⟩ | ⟨d, h1, h2, h3⟩ <;> omega
noncomputable def mx2 (a b : Int) : Int := if a = -6 ∨ b = -6 then -6 else if a < b then b else a
theorem mx2_n {a b : Int} (h : a = -6 ∨ b = -6) : mx2 a b = -6 := by unfold mx2; rw [if_pos h]
theorem mx2_y {a b : Int} (h : a ≠ -6) (g : b ≠ -6) : mx2 a b = if a < b then b else a := by unfold mx2; rw [if_neg (by omega)]
/-- the most strides of the first n people to j, or -6 -/
noncomputable def mxV (V : Nat → Int) : Nat → Nat → Int → Prop
  | 0, _, m => m = 0
  | n + 1, j, m => ∃ m0, mxV V n j m0 ∧ ((bt (V 6).toNat n = 0 ∧ m = m0) ∨ (bt (V 6).toNat n = 1 ∧ ∃ c, dsV V (V (8 + 4 * (V (8 + 4 * n + 3)).toNat + 0)) (V (8 + 4 * n + 2)).toNat j c ∧ m = mx2 m0 c))
theorem mxV.uniq {V : Nat → Int} {j : Nat} : ∀ {n : Nat} {a b : Int}, mxV V n j a → mxV V n j b → b = a
  | 0, a, b, h, g => by have h : a = 0 := h; have g : b = 0 := g; omega
  | n + 1, a, b, ⟨x, h1, h2⟩, ⟨y, g1, g2⟩ => by
    have e := mxV.uniq h1 g1
    subst e
    rcases h2 with ⟨h2, h3⟩ | ⟨h2, c, h3, h4⟩ <;> rcases g2 with ⟨g2, g3⟩ | ⟨g2, e, g3, g4⟩
    · omega
    · omega
    · omega
    · have u := dsV.uniq h3 g3
      subst u
      rw [h4, g4]
theorem mxV.b {V : Nat → Int} {j : Nat} : ∀ {n : Nat} {a : Int}, mxV V n j a → a = -6 ∨ (0 ≤ a ∧ a ≤ 36)
  | 0, a, h => by have h : a = 0 := h; omega
  | n + 1, a, ⟨x, h1, h2⟩ => by
    have e := mxV.b h1
    rcases h2 with ⟨h2, h3⟩ | ⟨h2, c, h3, h4⟩
    · omega
    · have u := h3.b
      by_cases q : x = -6 ∨ c = -6
      · rw [h4, mx2_n q]; omega
      · rw [h4, mx2_y (by omega) (by omega)]; split <;> omega
theorem mxV_sea {V : Nat → Int} {j : Nat} (hp : ∀ p : Nat, p < 4 → bt (V 6).toNat p = 1 → 0 ≤ V (8 + 4 * p + 2) ∧ V (8 + 4 * p + 2) < szV V ∧ V (40 + (V (8 + 4 * p + 2)).toNat) ≠ 126) (hj : V (40 + j) = 126) {p : Nat} (p1 : bt (V 6).toNat p = 1) : ∀ {n : Nat} {a : Int}, n ≤ 4 → p < n → mxV V n j a → a = -6
  | 0, a, _, h, _ => by omega
  | n + 1, a, h4, hn, ⟨x, h1, h2⟩ => by
    by_cases q : p < n
    · have e := mxV_sea hp hj p1 (by omega) q h1
      rcases h2 with ⟨h2, h3⟩ | ⟨h2, c, h3, h4⟩
      · omega
      · rw [h4, mx2_n (Or.inl e)]
    · have e : p = n := by omega
      subst e
      rcases h2 with ⟨h2, h3⟩ | ⟨h2, c, h3, h4⟩
      · omega
      · have u := hp p (by omega) p1
        rcases h3 with ⟨a1, a2⟩ | ⟨d, a1, a2, a3⟩
        · rw [h4, mx2_n (Or.inr a1)]
        · exact absurd hj (wV_ld ⟨by omega, u.2.2⟩ a3.1).2
theorem ppl {V : Nat → Int} (hv6 : 0 ≤ V 6 ∧ V 6 ≤ 15) (h0 : V 6 ≠ 0) : ∃ p : Nat, p < 4 ∧ bt (V 6).toNat p = 1 := by
  obtain ⟨p, hp⟩ := bt_some (a := (V 6).toNat) (by omega)
  refine ⟨p, ?_, hp⟩
  apply Classical.byContradiction
  intro q
  have := bt_hi (n := (V 6).toNat) (m := 4) (j := p) (by omega) (by omega)
  omega
noncomputable def bsV (V : Nat → Int) (c : Nat) (m : Int) : Prop := (c : Int) < szV V ∧ mxV V 4 c m ∧ m ≠ -6 ∧ ∀ (j : Nat) (m' : Int), (j : Int) < szV V → mxV V 4 j m' → m' = -6 ∨ m < m' ∨ (m = m' ∧ c ≤ j)
theorem bsV.uniq {V : Nat → Int} {a b : Nat} {m n : Int} (h : bsV V a m) (g : bsV V b n) : b = a ∧ n = m := by
  have p := h.2.2.2 b n g.1 g.2.1
  have q := g.2.2.2 a m h.1 h.2.1
  have p1 := h.2.2.1
  have q1 := g.2.2.1
  omega
noncomputable def metP (V : Nat → Int) (wh z : Int) : Prop := (z = -2 ∧ (wh < 0 ∨ 1 < wh)) ∨ (z = -3 ∧ (0 ≤ wh ∧ wh ≤ 1) ∧ V 6 = 0) ∨ ((0 ≤ wh ∧ wh ≤ 1) ∧ V 6 ≠ 0 ∧ ((z = -6 ∧ ∀ j : Nat, (j : Int) < szV V → mxV V 4 j (-6)) ∨ ∃ (c : Nat) (m : Int), bsV V c m ∧ ((wh = 0 ∧ z = m) ∨ (wh = 1 ∧ z = c))))
theorem U_meet {V : Nat → Int} {wh z z2 : Int} (h : metP V wh z) (g : metP V wh z2) : z2 = z := by
  rcases h with h | h | ⟨h1, h2, h3⟩ <;> rcases g with g | g | ⟨g1, g2, g3⟩
  · omega
  · omega
  · clear g3; omega
  · omega
  · omega
  · clear g3; omega
  · clear h3; omega
  · clear h3; omega
  · rcases h3 with ⟨h3, h4⟩ | ⟨c, m, h3, h4⟩ <;> rcases g3 with ⟨g3, g4⟩ | ⟨e, n, g3, g4⟩
    · omega
    · exact absurd (mxV.uniq (h4 e g3.1) g3.2.1) g3.2.2.1
    · exact absurd (mxV.uniq (g4 c h3.1) h3.2.1) h3.2.2.1
    · obtain ⟨u, v⟩ := h3.uniq g3
      subst u
      subst v
      omega
theorem on19 {w w1 : am_W} (h : only [19] w w1) : only [19, 20] w w1 := h.sub fun q hq => by rw [List.mem_singleton.mp hq]; decide
theorem on20 {w w1 : am_W} (h : only [20] w w1) : only [19, 20] w w1 := h.sub fun q hq => by rw [List.mem_singleton.mp hq]; decide
/-- the least place of the least, so far -/
noncomputable def btQ (r : Nat → Int) (i z : Int) : Prop := (z = -6 ∧ ∀ j : Nat, (j : Int) < i → r j = -6) ∨ ((0 ≤ z ∧ z < i) ∧ r z.toNat ≠ -6 ∧ ∀ j : Nat, (j : Int) < i → r j = -6 ∨ r z.toNat < r j ∨ (r z.toNat = r j ∧ z ≤ j))
theorem btQ.b {r : Nat → Int} {i z : Int} (h : btQ r i z) : z = -6 ∨ (0 ≤ z ∧ z < i) := by
  rcases h with h | h
  · exact Or.inl h.1
  · exact Or.inr h.1
theorem btQ.st {r : Nat → Int} {i z z' : Int} (h : btQ r i z) (h0 : 0 ≤ i) (e : (r i.toNat = -6 ∧ z' = z) ∨ (r i.toNat ≠ -6 ∧ z = -6 ∧ z' = i) ∨ (r i.toNat ≠ -6 ∧ z ≠ -6 ∧ r i.toNat < r z.toNat ∧ z' = i) ∨ (r i.toNat ≠ -6 ∧ z ≠ -6 ∧ r z.toNat ≤ r i.toNat ∧ z' = z)) : btQ r (i + 1) z' := by
  have cs : ∀ j : Nat, (j : Int) < i + 1 → (j : Int) < i ∨ j = i.toNat := fun j hj => by omega
  rcases e with ⟨e1, e2⟩ | ⟨e1, e2, e3⟩ | ⟨e1, e2, e3, e4⟩ | ⟨e1, e2, e3, e4⟩
  · subst e2
    rcases h with ⟨h1, h2⟩ | ⟨h1, h2, h3⟩
    · refine Or.inl ⟨h1, fun j hj => ?_⟩
      rcases cs j hj with q | q
      · exact h2 j q
      · rw [q]; exact e1
    · refine Or.inr ⟨by omega, h2, fun j hj => ?_⟩
      rcases cs j hj with q | q
      · exact h3 j q
      · rw [q]; exact Or.inl e1
  · subst e3
    rcases h with ⟨h1, h2⟩ | ⟨h1, h2, h3⟩
    · refine Or.inr ⟨by omega, e1, fun j hj => ?_⟩
      rcases cs j hj with q | q
      · exact Or.inl (h2 j q)
      · rw [q]; omega
    · omega
  · subst e4
    rcases h with ⟨h1, h2⟩ | ⟨h1, h2, h3⟩
    · omega
    · refine Or.inr ⟨by omega, e1, fun j hj => ?_⟩
      rcases cs j hj with q | q
      · have := h3 j q; omega
      · rw [q]; omega
  · subst e4
    rcases h with ⟨h1, h2⟩ | ⟨h1, h2, h3⟩
    · omega
    · refine Or.inr ⟨by omega, h2, fun j hj => ?_⟩
      rcases cs j hj with q | q
      · exact h3 j q
      · rw [q]; omega
theorem e_kmL {d : Nat} {w00 : am_W} (I0 : ab_inv ab_TT ab_sets w00) : ∀ (m : Nat) (w : am_W) (c : Int32) (o3 : Option Value), (szC w00 - c.toInt).toNat < m → 0 ≤ c.toInt → c.toInt ≤ szC w00 → ab_J ab_TT ab_sets ab_WR w00 w → only [20] w00 w → (∀ j : Nat, (j : Int) < c.toInt → rI w 20 j = mx2 (rI w00 20 j) (rI w00 19 j)) → (∀ j : Nat, c.toInt ≤ (j : Int) → rI w 20 j = rI w00 20 j) → aw none (d + 1) 28 (fun r w1 => r = none ∧ ab_J ab_TT ab_sets ab_WR w00 w1 ∧ only [20] w00 w1 ∧ ∀ j : Nat, (j : Int) < szC w00 → rI w1 20 j = mx2 (rI w00 20 j) (rI w00 19 j)) (2, [some (.ref 18), some (.ref 3), some (.int c), o3], []) w := by
  have szc := szC_in I0
  intro m
  induction m with
  | zero => intro w c o3 p; omega
  | succ m ih =>
    intro w c o3 p1 p2 p3 J O F G
    have hs : szC w = szC w00 := by unfold szC; rw [O.fIe (by decide), O.fIe (by decide)]
    refine aw_step (f1 := (3, [some (.ref 18), some (.ref 3), some (.int c), o3], [(.int c)])) (w1 := w) rfl rfl ?_
    refine aw_step (f1 := (4, [some (.ref 18), some (.ref 3), some (.int c), o3], [(.ref 3), (.int c)])) (w1 := w) rfl rfl ?_
    refine s_cv (z := 38) (p := 3) (as := []) (st1 := [(.int c)]) J 7 rfl rfl rfl rfl rfl rfl rfl rfl (Nat.le_of_ble_eq_true rfl) (Nat.le_of_ble_eq_true rfl) (q_size J.1) ?_
    rintro _ _ ⟨rfl, x1, rfl, x1t⟩
    refine ⟨rfl, ?_⟩
    show aw none _ 28 _ (7, [some (.ref 18), some (.ref 3), some (.int c), o3], [(.int x1), (.int c)]) w
    refine s_ic 74 10 rfl rfl rfl (fun (h2 : x1.toInt ≤ c.toInt) => ?_) (fun (h2 : ¬ (x1.toInt ≤ c.toInt)) => ?_)
    · --
      refine aw_ret (v := none) rfl rfl ?_
      exact ⟨rfl, J, O, fun j hj => F j (by omega)⟩
    · --
      refine aw_step (f1 := (11, [some (.ref 18), some (.ref 3), some (.int c), o3], [(.ref 18)])) (w1 := w) rfl rfl ?_
      refine s_gr 20 J 14 rfl rfl rfl rfl rfl rfl ?_
      refine aw_step (f1 := (15, [some (.ref 18), some (.ref 3), some (.int c), o3], [(.int c), (.ref 20)])) (w1 := w) rfl rfl ?_
      refine s_ia J 16 rfl rfl rfl rfl (by omega) (by omega) fun x3 x3a x3b x3f => ?_
      have x3v : x3.toInt = rI w 20 c.toInt.toNat := by rw [← rI_of x3f]
      refine s_i (pc1 := 18) (ls1 := [some (.ref 18), some (.ref 3), some (.int c), o3]) (st1 := [(.int x3)]) rfl rfl fun x4 e5 => ?_
      have e5t : x4.toInt = -6 := by rw [e5]; rfl
      refine s_ic 32 21 rfl rfl rfl (fun (h6 : x3.toInt = x4.toInt) => ?_) (fun (h6 : ¬ (x3.toInt = x4.toInt)) => ?_)
      · --
        refine s_i (pc1 := 33) (ls1 := [some (.ref 18), some (.ref 3), some (.int c), o3]) (st1 := []) rfl rfl fun x7 e8 => ?_
        have e8t : x7.toInt = 1 := by rw [e8]; rfl
        refine aw_step (f1 := (37, [some (.ref 18), some (.ref 3), some (.int c), o3], [(.int x7)])) (w1 := w) rfl rfl ?_
        refine aw_step (f1 := (38, [some (.ref 18), some (.ref 3), some (.int c), some (.int x7)], [])) (w1 := w) rfl rfl ?_
        refine aw_step (f1 := (39, [some (.ref 18), some (.ref 3), some (.int c), some (.int x7)], [(.ref 18)])) (w1 := w) rfl rfl ?_
        refine s_gr 20 J 42 rfl rfl rfl rfl rfl rfl ?_
        refine aw_step (f1 := (43, [some (.ref 18), some (.ref 3), some (.int c), some (.int x7)], [(.int c), (.ref 20)])) (w1 := w) rfl rfl ?_
        refine aw_step (f1 := (44, [some (.ref 18), some (.ref 3), some (.int c), some (.int x7)], [(.int x7), (.int c), (.ref 20)])) (w1 := w) rfl rfl ?_
        refine s_if 52 47 rfl rfl rfl (fun (h9 : x7.toInt = 0) => ?_) (fun (h9 : ¬ (x7.toInt = 0)) => ?_)
        · --
          refine aw_step (f1 := (53, [some (.ref 18), some (.ref 3), some (.int c), some (.int x7)], [(.ref 18), (.int c), (.ref 20)])) (w1 := w) rfl rfl ?_
          refine s_gr 20 J 56 rfl rfl rfl rfl rfl rfl ?_
          refine aw_step (f1 := (57, [some (.ref 18), some (.ref 3), some (.int c), some (.int x7)], [(.int c), (.ref 20), (.int c), (.ref 20)])) (w1 := w) rfl rfl ?_
          refine s_ia J 58 rfl rfl rfl rfl (by omega) (by omega) fun x10 x10a x10b x10f => ?_
          have x10v : x10.toInt = rI w 20 c.toInt.toNat := by rw [← rI_of x10f]
          refine aw_step (f1 := (59, [some (.ref 18), some (.ref 3), some (.int c), some (.int x7)], [(.ref 18), (.int x10), (.int c), (.ref 20)])) (w1 := w) rfl rfl ?_
          refine s_gr 19 J 62 rfl rfl rfl rfl rfl rfl ?_
          refine aw_step (f1 := (63, [some (.ref 18), some (.ref 3), some (.int c), some (.int x7)], [(.int c), (.ref 19), (.int x10), (.int c), (.ref 20)])) (w1 := w) rfl rfl ?_
          refine s_ia J 64 rfl rfl rfl rfl (by omega) (by omega) fun x11 x11a x11b x11f => ?_
          have x11v : x11.toInt = rI w 19 c.toInt.toNat := by rw [← rI_of x11f]
          --
          refine s_i (pc1 := 67) (ls1 := [some (.ref 18), some (.ref 3), some (.int c), some (.int x7)]) (st1 := [(.int c), (.ref 20)]) rfl rfl fun x12 e13 => ?_
          have e13t : x12.toInt = if x10.toInt < x11.toInt then x11.toInt else x10.toInt := by rw [e13]; exact n_mx
          --
          refine s_is J 68 rfl rfl rfl rfl (by omega) (by omega) (by omega) (by omega) fun w14 J15 w14e => ?_
          have w14f := rI_st J.1 (p := 20) (j := c.toInt.toNat) rfl (by omega) w14e
          refine aw_step (f1 := (71, [some (.ref 18), some (.ref 3), some (.int (c + Int32.ofInt 1)), some (.int x7)], [])) (w1 := w14) rfl rfl ?_
          obtain ⟨x16, x16e⟩ : ∃ z, z = (c + Int32.ofInt 1) := ⟨_, rfl⟩
          have x16t : x16.toInt = c.toInt + (1) := by rw [x16e]; exact n_add (y := Int32.ofInt (1)) (by show _ ≤ _ + (1 : Int); omega) (by show _ + (1 : Int) ≤ _; omega)
          rw [← x16e]
          refine aw_step (f1 := (2, [some (.ref 18), some (.ref 3), some (.int x16), some (.int x7)], [])) (w1 := w14) rfl rfl ?_
          refine ih w14 x16 _ (by omega) (by omega) (by omega) J15 (O.trans w14f.1) (fun j hj => ?_) (fun j hj => ?_)
          · by_cases q : j = c.toInt.toNat
            · rw [q, w14f.2.1, ← G c.toInt.toNat (by omega), ← O.rIe (p := 19) (by decide)]
              first
                | (rw [mx2_n (by omega)]; omega)
                | (rw [mx2_y (by omega) (by omega)]; omega)
                | (rw [mx2_y (by omega) (by omega), ← x10v, ← x11v]; exact e13t)
                | (exfalso; omega)
            · rw [w14f.2.2 j q]; exact F j (by omega)
          · rw [w14f.2.2 j (by omega)]; exact G j (by omega)
        · --
          refine s_i (pc1 := 49) (ls1 := [some (.ref 18), some (.ref 3), some (.int c), some (.int x7)]) (st1 := [(.int c), (.ref 20)]) rfl rfl fun x17 e18 => ?_
          have e18t : x17.toInt = -6 := by rw [e18]; rfl
          refine aw_step (f1 := (67, [some (.ref 18), some (.ref 3), some (.int c), some (.int x7)], [(.int x17), (.int c), (.ref 20)])) (w1 := w) rfl rfl ?_
          --
          refine s_is J 68 rfl rfl rfl rfl (by omega) (by omega) (by omega) (by omega) fun w19 J20 w19e => ?_
          have w19f := rI_st J.1 (p := 20) (j := c.toInt.toNat) rfl (by omega) w19e
          refine aw_step (f1 := (71, [some (.ref 18), some (.ref 3), some (.int (c + Int32.ofInt 1)), some (.int x7)], [])) (w1 := w19) rfl rfl ?_
          obtain ⟨x21, x21e⟩ : ∃ z, z = (c + Int32.ofInt 1) := ⟨_, rfl⟩
          have x21t : x21.toInt = c.toInt + (1) := by rw [x21e]; exact n_add (y := Int32.ofInt (1)) (by show _ ≤ _ + (1 : Int); omega) (by show _ + (1 : Int) ≤ _; omega)
          rw [← x21e]
          refine aw_step (f1 := (2, [some (.ref 18), some (.ref 3), some (.int x21), some (.int x7)], [])) (w1 := w19) rfl rfl ?_
          refine ih w19 x21 _ (by omega) (by omega) (by omega) J20 (O.trans w19f.1) (fun j hj => ?_) (fun j hj => ?_)
          · by_cases q : j = c.toInt.toNat
            · rw [q, w19f.2.1, ← G c.toInt.toNat (by omega), ← O.rIe (p := 19) (by decide)]
              first
                | (rw [mx2_n (by omega)]; omega)
                | (rw [mx2_y (by omega) (by omega)]; omega)
                | (rw [mx2_y (by omega) (by omega), ← x10v, ← x11v]; exact e18t)
                | (exfalso; omega)
            · rw [w19f.2.2 j q]; exact F j (by omega)
          · rw [w19f.2.2 j (by omega)]; exact G j (by omega)
      · --
        refine aw_step (f1 := (22, [some (.ref 18), some (.ref 3), some (.int c), o3], [(.ref 18)])) (w1 := w) rfl rfl ?_
        refine s_gr 19 J 25 rfl rfl rfl rfl rfl rfl ?_
        refine aw_step (f1 := (26, [some (.ref 18), some (.ref 3), some (.int c), o3], [(.int c), (.ref 19)])) (w1 := w) rfl rfl ?_
        refine s_ia J 27 rfl rfl rfl rfl (by omega) (by omega) fun x22 x22a x22b x22f => ?_
        have x22v : x22.toInt = rI w 19 c.toInt.toNat := by rw [← rI_of x22f]
        refine s_i (pc1 := 29) (ls1 := [some (.ref 18), some (.ref 3), some (.int c), o3]) (st1 := [(.int x22)]) rfl rfl fun x23 e24 => ?_
        have e24t : x23.toInt = -6 := by rw [e24]; rfl
        refine s_ic 36 32 rfl rfl rfl (fun (h25 : ¬ x22.toInt = x23.toInt) => ?_) (fun (h25 : ¬ (¬ x22.toInt = x23.toInt)) => ?_)
        · --
          refine s_i (pc1 := 37) (ls1 := [some (.ref 18), some (.ref 3), some (.int c), o3]) (st1 := []) rfl rfl fun x26 e27 => ?_
          have e27t : x26.toInt = 0 := by rw [e27]; rfl
          refine aw_step (f1 := (38, [some (.ref 18), some (.ref 3), some (.int c), some (.int x26)], [])) (w1 := w) rfl rfl ?_
          refine aw_step (f1 := (39, [some (.ref 18), some (.ref 3), some (.int c), some (.int x26)], [(.ref 18)])) (w1 := w) rfl rfl ?_
          refine s_gr 20 J 42 rfl rfl rfl rfl rfl rfl ?_
          refine aw_step (f1 := (43, [some (.ref 18), some (.ref 3), some (.int c), some (.int x26)], [(.int c), (.ref 20)])) (w1 := w) rfl rfl ?_
          refine aw_step (f1 := (44, [some (.ref 18), some (.ref 3), some (.int c), some (.int x26)], [(.int x26), (.int c), (.ref 20)])) (w1 := w) rfl rfl ?_
          refine s_if 52 47 rfl rfl rfl (fun (h28 : x26.toInt = 0) => ?_) (fun (h28 : ¬ (x26.toInt = 0)) => ?_)
          · --
            refine aw_step (f1 := (53, [some (.ref 18), some (.ref 3), some (.int c), some (.int x26)], [(.ref 18), (.int c), (.ref 20)])) (w1 := w) rfl rfl ?_
            refine s_gr 20 J 56 rfl rfl rfl rfl rfl rfl ?_
            refine aw_step (f1 := (57, [some (.ref 18), some (.ref 3), some (.int c), some (.int x26)], [(.int c), (.ref 20), (.int c), (.ref 20)])) (w1 := w) rfl rfl ?_
            refine s_ia J 58 rfl rfl rfl rfl (by omega) (by omega) fun x29 x29a x29b x29f => ?_
            have x29v : x29.toInt = rI w 20 c.toInt.toNat := by rw [← rI_of x29f]
            refine aw_step (f1 := (59, [some (.ref 18), some (.ref 3), some (.int c), some (.int x26)], [(.ref 18), (.int x29), (.int c), (.ref 20)])) (w1 := w) rfl rfl ?_
            refine s_gr 19 J 62 rfl rfl rfl rfl rfl rfl ?_
            refine aw_step (f1 := (63, [some (.ref 18), some (.ref 3), some (.int c), some (.int x26)], [(.int c), (.ref 19), (.int x29), (.int c), (.ref 20)])) (w1 := w) rfl rfl ?_
            refine s_ia J 64 rfl rfl rfl rfl (by omega) (by omega) fun x30 x30a x30b x30f => ?_
            have x30v : x30.toInt = rI w 19 c.toInt.toNat := by rw [← rI_of x30f]
            --
            refine s_i (pc1 := 67) (ls1 := [some (.ref 18), some (.ref 3), some (.int c), some (.int x26)]) (st1 := [(.int c), (.ref 20)]) rfl rfl fun x31 e32 => ?_
            have e32t : x31.toInt = if x29.toInt < x30.toInt then x30.toInt else x29.toInt := by rw [e32]; exact n_mx
            --
            refine s_is J 68 rfl rfl rfl rfl (by omega) (by omega) (by omega) (by omega) fun w33 J34 w33e => ?_
            have w33f := rI_st J.1 (p := 20) (j := c.toInt.toNat) rfl (by omega) w33e
            refine aw_step (f1 := (71, [some (.ref 18), some (.ref 3), some (.int (c + Int32.ofInt 1)), some (.int x26)], [])) (w1 := w33) rfl rfl ?_
            obtain ⟨x35, x35e⟩ : ∃ z, z = (c + Int32.ofInt 1) := ⟨_, rfl⟩
            have x35t : x35.toInt = c.toInt + (1) := by rw [x35e]; exact n_add (y := Int32.ofInt (1)) (by show _ ≤ _ + (1 : Int); omega) (by show _ + (1 : Int) ≤ _; omega)
            rw [← x35e]
            refine aw_step (f1 := (2, [some (.ref 18), some (.ref 3), some (.int x35), some (.int x26)], [])) (w1 := w33) rfl rfl ?_
            refine ih w33 x35 _ (by omega) (by omega) (by omega) J34 (O.trans w33f.1) (fun j hj => ?_) (fun j hj => ?_)
            · by_cases q : j = c.toInt.toNat
              · rw [q, w33f.2.1, ← G c.toInt.toNat (by omega), ← O.rIe (p := 19) (by decide)]
                first
                  | (rw [mx2_n (by omega)]; omega)
                  | (rw [mx2_y (by omega) (by omega)]; omega)
                  | (rw [mx2_y (by omega) (by omega), ← x29v, ← x30v]; exact e32t)
                  | (exfalso; omega)
              · rw [w33f.2.2 j q]; exact F j (by omega)
            · rw [w33f.2.2 j (by omega)]; exact G j (by omega)
          · --
            refine s_i (pc1 := 49) (ls1 := [some (.ref 18), some (.ref 3), some (.int c), some (.int x26)]) (st1 := [(.int c), (.ref 20)]) rfl rfl fun x36 e37 => ?_
            have e37t : x36.toInt = -6 := by rw [e37]; rfl
            refine aw_step (f1 := (67, [some (.ref 18), some (.ref 3), some (.int c), some (.int x26)], [(.int x36), (.int c), (.ref 20)])) (w1 := w) rfl rfl ?_
            --
            refine s_is J 68 rfl rfl rfl rfl (by omega) (by omega) (by omega) (by omega) fun w38 J39 w38e => ?_
            have w38f := rI_st J.1 (p := 20) (j := c.toInt.toNat) rfl (by omega) w38e
            refine aw_step (f1 := (71, [some (.ref 18), some (.ref 3), some (.int (c + Int32.ofInt 1)), some (.int x26)], [])) (w1 := w38) rfl rfl ?_
            obtain ⟨x40, x40e⟩ : ∃ z, z = (c + Int32.ofInt 1) := ⟨_, rfl⟩
            have x40t : x40.toInt = c.toInt + (1) := by rw [x40e]; exact n_add (y := Int32.ofInt (1)) (by show _ ≤ _ + (1 : Int); omega) (by show _ + (1 : Int) ≤ _; omega)
            rw [← x40e]
            refine aw_step (f1 := (2, [some (.ref 18), some (.ref 3), some (.int x40), some (.int x26)], [])) (w1 := w38) rfl rfl ?_
            refine ih w38 x40 _ (by omega) (by omega) (by omega) J39 (O.trans w38f.1) (fun j hj => ?_) (fun j hj => ?_)
            · by_cases q : j = c.toInt.toNat
              · rw [q, w38f.2.1, ← G c.toInt.toNat (by omega), ← O.rIe (p := 19) (by decide)]
                first
                  | (rw [mx2_n (by omega)]; omega)
                  | (rw [mx2_y (by omega) (by omega)]; omega)
                  | (rw [mx2_y (by omega) (by omega), ← x29v, ← x30v]; exact e37t)
                  | (exfalso; omega)
              · rw [w38f.2.2 j q]; exact F j (by omega)
            · rw [w38f.2.2 j (by omega)]; exact G j (by omega)
        · --
          refine s_i (pc1 := 33) (ls1 := [some (.ref 18), some (.ref 3), some (.int c), o3]) (st1 := []) rfl rfl fun x41 e42 => ?_
          have e42t : x41.toInt = 1 := by rw [e42]; rfl
          refine aw_step (f1 := (37, [some (.ref 18), some (.ref 3), some (.int c), o3], [(.int x41)])) (w1 := w) rfl rfl ?_
          refine aw_step (f1 := (38, [some (.ref 18), some (.ref 3), some (.int c), some (.int x41)], [])) (w1 := w) rfl rfl ?_
          refine aw_step (f1 := (39, [some (.ref 18), some (.ref 3), some (.int c), some (.int x41)], [(.ref 18)])) (w1 := w) rfl rfl ?_
          refine s_gr 20 J 42 rfl rfl rfl rfl rfl rfl ?_
          refine aw_step (f1 := (43, [some (.ref 18), some (.ref 3), some (.int c), some (.int x41)], [(.int c), (.ref 20)])) (w1 := w) rfl rfl ?_
          refine aw_step (f1 := (44, [some (.ref 18), some (.ref 3), some (.int c), some (.int x41)], [(.int x41), (.int c), (.ref 20)])) (w1 := w) rfl rfl ?_
          refine s_if 52 47 rfl rfl rfl (fun (h43 : x41.toInt = 0) => ?_) (fun (h43 : ¬ (x41.toInt = 0)) => ?_)
          · --
            refine aw_step (f1 := (53, [some (.ref 18), some (.ref 3), some (.int c), some (.int x41)], [(.ref 18), (.int c), (.ref 20)])) (w1 := w) rfl rfl ?_
            refine s_gr 20 J 56 rfl rfl rfl rfl rfl rfl ?_
            refine aw_step (f1 := (57, [some (.ref 18), some (.ref 3), some (.int c), some (.int x41)], [(.int c), (.ref 20), (.int c), (.ref 20)])) (w1 := w) rfl rfl ?_
            refine s_ia J 58 rfl rfl rfl rfl (by omega) (by omega) fun x44 x44a x44b x44f => ?_
            have x44v : x44.toInt = rI w 20 c.toInt.toNat := by rw [← rI_of x44f]
            refine aw_step (f1 := (59, [some (.ref 18), some (.ref 3), some (.int c), some (.int x41)], [(.ref 18), (.int x44), (.int c), (.ref 20)])) (w1 := w) rfl rfl ?_
            refine s_gr 19 J 62 rfl rfl rfl rfl rfl rfl ?_
            refine aw_step (f1 := (63, [some (.ref 18), some (.ref 3), some (.int c), some (.int x41)], [(.int c), (.ref 19), (.int x44), (.int c), (.ref 20)])) (w1 := w) rfl rfl ?_
            refine s_ia J 64 rfl rfl rfl rfl (by omega) (by omega) fun x45 x45a x45b x45f => ?_
            have x45v : x45.toInt = rI w 19 c.toInt.toNat := by rw [← rI_of x45f]
            --
            refine s_i (pc1 := 67) (ls1 := [some (.ref 18), some (.ref 3), some (.int c), some (.int x41)]) (st1 := [(.int c), (.ref 20)]) rfl rfl fun x46 e47 => ?_
            have e47t : x46.toInt = if x44.toInt < x45.toInt then x45.toInt else x44.toInt := by rw [e47]; exact n_mx
            --
            refine s_is J 68 rfl rfl rfl rfl (by omega) (by omega) (by omega) (by omega) fun w48 J49 w48e => ?_
            have w48f := rI_st J.1 (p := 20) (j := c.toInt.toNat) rfl (by omega) w48e
            refine aw_step (f1 := (71, [some (.ref 18), some (.ref 3), some (.int (c + Int32.ofInt 1)), some (.int x41)], [])) (w1 := w48) rfl rfl ?_
            obtain ⟨x50, x50e⟩ : ∃ z, z = (c + Int32.ofInt 1) := ⟨_, rfl⟩
            have x50t : x50.toInt = c.toInt + (1) := by rw [x50e]; exact n_add (y := Int32.ofInt (1)) (by show _ ≤ _ + (1 : Int); omega) (by show _ + (1 : Int) ≤ _; omega)
            rw [← x50e]
            refine aw_step (f1 := (2, [some (.ref 18), some (.ref 3), some (.int x50), some (.int x41)], [])) (w1 := w48) rfl rfl ?_
            refine ih w48 x50 _ (by omega) (by omega) (by omega) J49 (O.trans w48f.1) (fun j hj => ?_) (fun j hj => ?_)
            · by_cases q : j = c.toInt.toNat
              · rw [q, w48f.2.1, ← G c.toInt.toNat (by omega), ← O.rIe (p := 19) (by decide)]
                first
                  | (rw [mx2_n (by omega)]; omega)
                  | (rw [mx2_y (by omega) (by omega)]; omega)
                  | (rw [mx2_y (by omega) (by omega), ← x44v, ← x45v]; exact e47t)
                  | (exfalso; omega)
              · rw [w48f.2.2 j q]; exact F j (by omega)
            · rw [w48f.2.2 j (by omega)]; exact G j (by omega)
          · --
            refine s_i (pc1 := 49) (ls1 := [some (.ref 18), some (.ref 3), some (.int c), some (.int x41)]) (st1 := [(.int c), (.ref 20)]) rfl rfl fun x51 e52 => ?_
            have e52t : x51.toInt = -6 := by rw [e52]; rfl
            refine aw_step (f1 := (67, [some (.ref 18), some (.ref 3), some (.int c), some (.int x41)], [(.int x51), (.int c), (.ref 20)])) (w1 := w) rfl rfl ?_
            --
            refine s_is J 68 rfl rfl rfl rfl (by omega) (by omega) (by omega) (by omega) fun w53 J54 w53e => ?_
            have w53f := rI_st J.1 (p := 20) (j := c.toInt.toNat) rfl (by omega) w53e
            refine aw_step (f1 := (71, [some (.ref 18), some (.ref 3), some (.int (c + Int32.ofInt 1)), some (.int x41)], [])) (w1 := w53) rfl rfl ?_
            obtain ⟨x55, x55e⟩ : ∃ z, z = (c + Int32.ofInt 1) := ⟨_, rfl⟩
            have x55t : x55.toInt = c.toInt + (1) := by rw [x55e]; exact n_add (y := Int32.ofInt (1)) (by show _ ≤ _ + (1 : Int); omega) (by show _ + (1 : Int) ≤ _; omega)
            rw [← x55e]
            refine aw_step (f1 := (2, [some (.ref 18), some (.ref 3), some (.int x55), some (.int x41)], [])) (w1 := w53) rfl rfl ?_
            refine ih w53 x55 _ (by omega) (by omega) (by omega) J54 (O.trans w53f.1) (fun j hj => ?_) (fun j hj => ?_)
            · by_cases q : j = c.toInt.toNat
              · rw [q, w53f.2.1, ← G c.toInt.toNat (by omega), ← O.rIe (p := 19) (by decide)]
                first
                  | (rw [mx2_n (by omega)]; omega)
                  | (rw [mx2_y (by omega) (by omega)]; omega)
                  | (rw [mx2_y (by omega) (by omega), ← x44v, ← x45v]; exact e52t)
                  | (exfalso; omega)
              · rw [w53f.2.2 j q]; exact F j (by omega)
            · rw [w53f.2.2 j (by omega)]; exact G j (by omega)
theorem e_keepMost {d : Nat} {w : am_W} (I : ab_inv ab_TT ab_sets w) : aw none (d + 1) 28 (fun r w1 => r = none ∧ ab_J ab_TT ab_sets ab_WR w w1 ∧ only [20] w w1 ∧ ∀ j : Nat, (j : Int) < szC w → rI w1 20 j = mx2 (rI w 20 j) (rI w 19 j)) (0, am_entry 28 [.ref 18, .ref 3], []) w := by
  have J : ab_J ab_TT ab_sets ab_WR w w := ⟨I, ab_fr.rf⟩
  have szc := szC_in I
  show aw none (d + 1) 28 _ (0, [some (.ref 18), some (.ref 3), none, none], []) w
  refine s_i (pc1 := 1) (ls1 := [some (.ref 18), some (.ref 3), none, none]) (st1 := []) rfl rfl fun x1 e2 => ?_
  have e2t : x1.toInt = 0 := by rw [e2]; rfl
  refine aw_step (f1 := (2, [some (.ref 18), some (.ref 3), some (.int x1), none], [])) (w1 := w) rfl rfl ?_
  exact e_kmL I 37 w x1 _ (by omega) (by omega) (by omega) J only.rf (fun j hj => by omega) (fun j _ => rfl)
theorem e_mtB {d : Nat} {w00 w : am_W} {V : Nat → Int} (R : RCs w 3 V) (J : ab_J ab_TT ab_sets ab_WR w00 w) (O : only [19, 20] w00 w) (M : ∀ j : Nat, (j : Int) < szV V → mxV V 4 j (rI w 20 j)) : ∀ (m : Nat) (z c : Int32), (szV V - c.toInt).toNat < m → 0 ≤ c.toInt → c.toInt ≤ szV V → btQ (rI w 20) c.toInt z.toInt → aw none (d + 1) 27 (fun r w1 => ab_J ab_TT ab_sets ab_WR w00 w1 ∧ only [19, 20] w00 w1 ∧ ∃ z : Int32, r = some (.int z) ∧ (∀ j : Nat, (j : Int) < szV V → mxV V 4 j (rI w1 20 j)) ∧ btQ (rI w1 20) (szV V) z.toInt) (62, [some (.ref 18), some (.ref 3), some (.int z), some (.int c)], []) w := by
  have szc := szC_in J.1
  have hsz := R.sz
  intro m
  induction m with
  | zero => intro z c p; omega
  | succ m ih =>
    intro z c p1 p2 p3 F
    have zb := F.b
    refine aw_step (f1 := (63, [some (.ref 18), some (.ref 3), some (.int z), some (.int c)], [(.int c)])) (w1 := w) rfl rfl ?_
    refine aw_step (f1 := (64, [some (.ref 18), some (.ref 3), some (.int z), some (.int c)], [(.ref 3), (.int c)])) (w1 := w) rfl rfl ?_
    refine s_cv (z := 38) (p := 3) (as := []) (st1 := [(.int c)]) J 67 rfl rfl rfl rfl rfl rfl rfl rfl (Nat.le_of_ble_eq_true rfl) (Nat.le_of_ble_eq_true rfl) (q_size J.1) ?_
    rintro _ _ ⟨rfl, x1, rfl, x1t⟩
    refine ⟨rfl, ?_⟩
    show aw none _ 27 _ (67, [some (.ref 18), some (.ref 3), some (.int z), some (.int c)], [(.int x1), (.int c)]) w
    refine s_ic 110 70 rfl rfl rfl (fun (h2 : x1.toInt ≤ c.toInt) => ?_) (fun (h2 : ¬ (x1.toInt ≤ c.toInt)) => ?_)
    · --
      refine aw_step (f1 := (111, [some (.ref 18), some (.ref 3), some (.int z), some (.int c)], [(.int z)])) (w1 := w) rfl rfl ?_
      refine aw_ret (v := some (.int z)) rfl rfl ?_
      rw [show c.toInt = szV V by omega] at F
      exact ⟨J, O, z, rfl, M, F⟩
    · --
      refine aw_step (f1 := (71, [some (.ref 18), some (.ref 3), some (.int z), some (.int c)], [(.ref 18)])) (w1 := w) rfl rfl ?_
      refine s_gr 20 J 74 rfl rfl rfl rfl rfl rfl ?_
      refine aw_step (f1 := (75, [some (.ref 18), some (.ref 3), some (.int z), some (.int c)], [(.int c), (.ref 20)])) (w1 := w) rfl rfl ?_
      refine s_ia J 76 rfl rfl rfl rfl (by omega) (by omega) fun x3 x3a x3b x3f => ?_
      have x3v : x3.toInt = rI w 20 c.toInt.toNat := by rw [← rI_of x3f]
      refine s_i (pc1 := 78) (ls1 := [some (.ref 18), some (.ref 3), some (.int z), some (.int c)]) (st1 := [(.int x3)]) rfl rfl fun x4 e5 => ?_
      have e5t : x4.toInt = -6 := by rw [e5]; rfl
      refine s_ic 104 81 rfl rfl rfl (fun (h6 : x3.toInt = x4.toInt) => ?_) (fun (h6 : ¬ (x3.toInt = x4.toInt)) => ?_)
      · --
        refine aw_step (f1 := (107, [some (.ref 18), some (.ref 3), some (.int z), some (.int (c + Int32.ofInt 1))], [])) (w1 := w) rfl rfl ?_
        obtain ⟨x7, x7e⟩ : ∃ z, z = (c + Int32.ofInt 1) := ⟨_, rfl⟩
        have x7t : x7.toInt = c.toInt + (1) := by rw [x7e]; exact n_add (y := Int32.ofInt (1)) (by show _ ≤ _ + (1 : Int); omega) (by show _ + (1 : Int) ≤ _; omega)
        rw [← x7e]
        refine aw_step (f1 := (62, [some (.ref 18), some (.ref 3), some (.int z), some (.int x7)], [])) (w1 := w) rfl rfl ?_
        exact ih z x7 (by omega) (by omega) (by omega) (by rw [show x7.toInt = c.toInt + 1 by omega]; exact F.st (by omega) (by omega))
      · --
        refine aw_step (f1 := (82, [some (.ref 18), some (.ref 3), some (.int z), some (.int c)], [(.int z)])) (w1 := w) rfl rfl ?_
        refine s_i (pc1 := 84) (ls1 := [some (.ref 18), some (.ref 3), some (.int z), some (.int c)]) (st1 := [(.int z)]) rfl rfl fun x8 e9 => ?_
        have e9t : x8.toInt = -6 := by rw [e9]; rfl
        refine s_ic 102 87 rfl rfl rfl (fun (h10 : z.toInt = x8.toInt) => ?_) (fun (h10 : ¬ (z.toInt = x8.toInt)) => ?_)
        · --
          refine aw_step (f1 := (103, [some (.ref 18), some (.ref 3), some (.int z), some (.int c)], [(.int c)])) (w1 := w) rfl rfl ?_
          refine aw_step (f1 := (104, [some (.ref 18), some (.ref 3), some (.int c), some (.int c)], [])) (w1 := w) rfl rfl ?_
          refine aw_step (f1 := (107, [some (.ref 18), some (.ref 3), some (.int c), some (.int (c + Int32.ofInt 1))], [])) (w1 := w) rfl rfl ?_
          obtain ⟨x11, x11e⟩ : ∃ z, z = (c + Int32.ofInt 1) := ⟨_, rfl⟩
          have x11t : x11.toInt = c.toInt + (1) := by rw [x11e]; exact n_add (y := Int32.ofInt (1)) (by show _ ≤ _ + (1 : Int); omega) (by show _ + (1 : Int) ≤ _; omega)
          rw [← x11e]
          refine aw_step (f1 := (62, [some (.ref 18), some (.ref 3), some (.int c), some (.int x11)], [])) (w1 := w) rfl rfl ?_
          exact ih c x11 (by omega) (by omega) (by omega) (by rw [show x11.toInt = c.toInt + 1 by omega]; exact F.st (by omega) (by omega))
        · --
          refine aw_step (f1 := (88, [some (.ref 18), some (.ref 3), some (.int z), some (.int c)], [(.ref 18)])) (w1 := w) rfl rfl ?_
          refine s_gr 20 J 91 rfl rfl rfl rfl rfl rfl ?_
          refine aw_step (f1 := (92, [some (.ref 18), some (.ref 3), some (.int z), some (.int c)], [(.int c), (.ref 20)])) (w1 := w) rfl rfl ?_
          refine s_ia J 93 rfl rfl rfl rfl (by omega) (by omega) fun x12 x12a x12b x12f => ?_
          have x12v : x12.toInt = rI w 20 c.toInt.toNat := by rw [← rI_of x12f]
          refine aw_step (f1 := (94, [some (.ref 18), some (.ref 3), some (.int z), some (.int c)], [(.ref 18), (.int x12)])) (w1 := w) rfl rfl ?_
          refine s_gr 20 J 97 rfl rfl rfl rfl rfl rfl ?_
          refine aw_step (f1 := (98, [some (.ref 18), some (.ref 3), some (.int z), some (.int c)], [(.int z), (.ref 20), (.int x12)])) (w1 := w) rfl rfl ?_
          refine s_ia J 99 rfl rfl rfl rfl (by omega) (by omega) fun x13 x13a x13b x13f => ?_
          have x13v : x13.toInt = rI w 20 z.toInt.toNat := by rw [← rI_of x13f]
          refine s_ic 104 102 rfl rfl rfl (fun (h14 : x13.toInt ≤ x12.toInt) => ?_) (fun (h14 : ¬ (x13.toInt ≤ x12.toInt)) => ?_)
          · --
            refine aw_step (f1 := (107, [some (.ref 18), some (.ref 3), some (.int z), some (.int (c + Int32.ofInt 1))], [])) (w1 := w) rfl rfl ?_
            obtain ⟨x15, x15e⟩ : ∃ z, z = (c + Int32.ofInt 1) := ⟨_, rfl⟩
            have x15t : x15.toInt = c.toInt + (1) := by rw [x15e]; exact n_add (y := Int32.ofInt (1)) (by show _ ≤ _ + (1 : Int); omega) (by show _ + (1 : Int) ≤ _; omega)
            rw [← x15e]
            refine aw_step (f1 := (62, [some (.ref 18), some (.ref 3), some (.int z), some (.int x15)], [])) (w1 := w) rfl rfl ?_
            exact ih z x15 (by omega) (by omega) (by omega) (by rw [show x15.toInt = c.toInt + 1 by omega]; exact F.st (by omega) (by omega))
          · --
            refine aw_step (f1 := (103, [some (.ref 18), some (.ref 3), some (.int z), some (.int c)], [(.int c)])) (w1 := w) rfl rfl ?_
            refine aw_step (f1 := (104, [some (.ref 18), some (.ref 3), some (.int c), some (.int c)], [])) (w1 := w) rfl rfl ?_
            refine aw_step (f1 := (107, [some (.ref 18), some (.ref 3), some (.int c), some (.int (c + Int32.ofInt 1))], [])) (w1 := w) rfl rfl ?_
            obtain ⟨x16, x16e⟩ : ∃ z, z = (c + Int32.ofInt 1) := ⟨_, rfl⟩
            have x16t : x16.toInt = c.toInt + (1) := by rw [x16e]; exact n_add (y := Int32.ofInt (1)) (by show _ ≤ _ + (1 : Int); omega) (by show _ + (1 : Int) ≤ _; omega)
            rw [← x16e]
            refine aw_step (f1 := (62, [some (.ref 18), some (.ref 3), some (.int c), some (.int x16)], [])) (w1 := w) rfl rfl ?_
            exact ih c x16 (by omega) (by omega) (by omega) (by rw [show x16.toInt = c.toInt + 1 by omega]; exact F.st (by omega) (by omega))
theorem e_mtP {d : Nat} {w00 : am_W} {V : Nat → Int} (R00 : RCs w00 3 V) (hv6 : 0 ≤ V 6 ∧ V 6 ≤ 15) (hp : ∀ p : Nat, p < 4 → bt (V 6).toNat p = 1 → 0 ≤ V (8 + 4 * p + 2) ∧ V (8 + 4 * p + 2) < szV V ∧ V (40 + (V (8 + 4 * p + 2)).toNat) ≠ 126) (I0 : ab_inv ab_TT ab_sets w00) : ∀ (m : Nat) (w : am_W) (p : Int32) (o3 : Option Value), (4 - p.toInt).toNat < m → 0 ≤ p.toInt → p.toInt ≤ 4 → ab_J ab_TT ab_sets ab_WR w00 w → only [19, 20] w00 w → (∀ j : Nat, (j : Int) < szV V → mxV V p.toInt.toNat j (rI w 20 j)) → aw none (d + 5) 27 (fun r w1 => ab_J ab_TT ab_sets ab_WR w00 w1 ∧ only [19, 20] w00 w1 ∧ ∃ z : Int32, r = some (.int z) ∧ (∀ j : Nat, (j : Int) < szV V → mxV V 4 j (rI w1 20 j)) ∧ btQ (rI w1 20) (szV V) z.toInt) (10, [some (.ref 18), some (.ref 3), some (.int p), o3], []) w := by
  have szc := szC_in I0
  have hsz0 := R00.sz
  intro m
  induction m with
  | zero => intro w p o3 q; omega
  | succ m ih =>
    intro w p o3 p1 p2 p3 J O M
    have R := R00.of O (by decide)
    have hsz := R.sz
    refine aw_step (f1 := (11, [some (.ref 18), some (.ref 3), some (.int p), o3], [(.int p)])) (w1 := w) rfl rfl ?_
    refine s_i (pc1 := 12) (ls1 := [some (.ref 18), some (.ref 3), some (.int p), o3]) (st1 := [(.int p)]) rfl rfl fun x1 e2 => ?_
    have e2t : x1.toInt = 4 := by rw [e2]; rfl
    refine s_ic 57 15 rfl rfl rfl (fun (h3 : x1.toInt ≤ p.toInt) => ?_) (fun (h3 : ¬ (x1.toInt ≤ p.toInt)) => ?_)
    · --
      refine s_i (pc1 := 59) (ls1 := [some (.ref 18), some (.ref 3), some (.int p), o3]) (st1 := []) rfl rfl fun x4 e5 => ?_
      have e5t : x4.toInt = -6 := by rw [e5]; rfl
      refine aw_step (f1 := (60, [some (.ref 18), some (.ref 3), some (.int x4), o3], [])) (w1 := w) rfl rfl ?_
      refine s_i (pc1 := 61) (ls1 := [some (.ref 18), some (.ref 3), some (.int x4), o3]) (st1 := []) rfl rfl fun x6 e7 => ?_
      have e7t : x6.toInt = 0 := by rw [e7]; rfl
      refine aw_step (f1 := (62, [some (.ref 18), some (.ref 3), some (.int x4), some (.int x6)], [])) (w1 := w) rfl rfl ?_
      rw [show p.toInt.toNat = 4 by omega] at M
      exact e_mtB R J O M 37 x4 x6 (by omega) (by omega) (by omega) (by rw [show x6.toInt = 0 by omega]; exact Or.inl ⟨by omega, fun j hj => by omega⟩)
    · --
      refine aw_step (f1 := (16, [some (.ref 18), some (.ref 3), some (.int p), o3], [(.ref 3)])) (w1 := w) rfl rfl ?_
      refine aw_step (f1 := (17, [some (.ref 18), some (.ref 3), some (.int p), o3], [(.int p), (.ref 3)])) (w1 := w) rfl rfl ?_
      refine s_cv (z := 41) (p := 3) (as := [(.int p)]) (st1 := []) J 20 rfl rfl rfl rfl rfl rfl rfl rfl (Nat.le_of_ble_eq_true rfl) (Nat.le_of_ble_eq_true rfl) (q_isThere R hv6 p J.1) ?_
      rintro _ _ ⟨rfl, x8, rfl, x8t⟩
      refine ⟨rfl, ?_⟩
      show aw none _ 27 _ (20, [some (.ref 18), some (.ref 3), some (.int p), o3], [(.int x8)]) w
      refine s_if 51 23 rfl rfl rfl (fun (h9 : x8.toInt = 0) => ?_) (fun (h9 : ¬ (x8.toInt = 0)) => ?_)
      · --
        refine aw_step (f1 := (54, [some (.ref 18), some (.ref 3), some (.int (p + Int32.ofInt 1)), o3], [])) (w1 := w) rfl rfl ?_
        obtain ⟨x10, x10e⟩ : ∃ z, z = (p + Int32.ofInt 1) := ⟨_, rfl⟩
        have x10t : x10.toInt = p.toInt + (1) := by rw [x10e]; exact n_add (y := Int32.ofInt (1)) (by show _ ≤ _ + (1 : Int); omega) (by show _ + (1 : Int) ≤ _; omega)
        rw [← x10e]
        refine aw_step (f1 := (10, [some (.ref 18), some (.ref 3), some (.int x10), o3], [])) (w1 := w) rfl rfl ?_
        refine ih w x10 _ (by omega) (by omega) (by omega) J O (fun j hj => ?_)
        rw [show x10.toInt.toNat = p.toInt.toNat + 1 by omega]
        exact ⟨_, M j hj, Or.inl ⟨by omega, rfl⟩⟩
      · --
        refine aw_step (f1 := (24, [some (.ref 18), some (.ref 3), some (.int p), o3], [(.ref 18)])) (w1 := w) rfl rfl ?_
        refine aw_step (f1 := (25, [some (.ref 18), some (.ref 3), some (.int p), o3], [(.ref 3), (.ref 18)])) (w1 := w) rfl rfl ?_
        refine aw_step (f1 := (26, [some (.ref 18), some (.ref 3), some (.int p), o3], [(.ref 3), (.ref 3), (.ref 18)])) (w1 := w) rfl rfl ?_
        refine s_gr 7 J 29 rfl rfl rfl rfl rfl rfl ?_
        refine aw_step (f1 := (30, [some (.ref 18), some (.ref 3), some (.int p), o3], [(.ref 3), (.ref 7), (.ref 3), (.ref 18)])) (w1 := w) rfl rfl ?_
        refine s_gr 11 J 33 rfl rfl rfl rfl rfl rfl ?_
        refine aw_step (f1 := (34, [some (.ref 18), some (.ref 3), some (.int p), o3], [(.int p), (.ref 11), (.ref 7), (.ref 3), (.ref 18)])) (w1 := w) rfl rfl ?_
        refine s_ia J 35 rfl rfl rfl rfl (by omega) (by omega) fun x11 x11a x11b x11f => ?_
        have x11v : x11.toInt = rI w 11 p.toInt.toNat := by rw [← rI_of x11f]
        have hb : x11.toInt = V (8 + 4 * p.toInt.toNat + 3) := by rw [x11v]; exact R.rv (r := 8) (i := p.toInt.toNat) (by decide) (by decide) (by omega) (by show p.toInt.toNat < 4; omega)
        have pc := hp p.toInt.toNat (by omega) (by omega)
        refine s_ia J 36 rfl rfl rfl rfl (by omega) (by omega) fun x12 x12a x12b x12f => ?_
        have x12v : x12.toInt = rI w 7 x11.toInt.toNat := by rw [← rI_of x12f]
        have hl : x12.toInt = V (8 + 4 * (V (8 + 4 * p.toInt.toNat + 3)).toNat + 0) := by rw [← hb, x12v]; exact R.rv (r := 4) (i := x11.toInt.toNat) (by decide) (by decide) (by omega) (by show x11.toInt.toNat < 4; omega)
        refine aw_step (f1 := (37, [some (.ref 18), some (.ref 3), some (.int p), o3], [(.ref 3), (.int x12), (.ref 3), (.ref 18)])) (w1 := w) rfl rfl ?_
        refine s_gr 10 J 40 rfl rfl rfl rfl rfl rfl ?_
        refine aw_step (f1 := (41, [some (.ref 18), some (.ref 3), some (.int p), o3], [(.int p), (.ref 10), (.int x12), (.ref 3), (.ref 18)])) (w1 := w) rfl rfl ?_
        refine s_ia J 42 rfl rfl rfl rfl (by omega) (by omega) fun x13 x13a x13b x13f => ?_
        have x13v : x13.toInt = rI w 10 p.toInt.toNat := by rw [← rI_of x13f]
        have hc : x13.toInt = V (8 + 4 * p.toInt.toNat + 2) := by rw [x13v]; exact R.rv (r := 7) (i := p.toInt.toNat) (by decide) (by decide) (by omega) (by show p.toInt.toNat < 4; omega)
        refine s_cv (z := 22) (p := 18) (as := [(.ref 3), (.int x12), (.int x13)]) (st1 := []) J 45 rfl rfl rfl rfl rfl rfl rfl rfl (Nat.le_of_ble_eq_true rfl) (Nat.le_of_ble_eq_true rfl) (e_measure R x12 x13 ⟨by omega, by omega⟩ ⟨by omega, by omega⟩ J.1) ?_
        rintro _ w15 ⟨J16c, w15o, y14, rfl, y14t, w15p⟩
        have J16 := J.trans J16c
        refine ⟨am_len2 J J16c, ?_⟩
        show aw none _ 27 _ (45, [some (.ref 18), some (.ref 3), some (.int p), o3], [(.long y14)]) w15
        refine aw_step (f1 := (46, [some (.ref 18), some (.ref 3), some (.int p), o3], [])) (w1 := w15) rfl rfl ?_
        refine aw_step (f1 := (47, [some (.ref 18), some (.ref 3), some (.int p), o3], [(.ref 18)])) (w1 := w15) rfl rfl ?_
        refine aw_step (f1 := (48, [some (.ref 18), some (.ref 3), some (.int p), o3], [(.ref 3), (.ref 18)])) (w1 := w15) rfl rfl ?_
        refine s_cv (z := 28) (p := 18) (as := [(.ref 3)]) (st1 := []) J16 51 rfl rfl rfl rfl rfl rfl rfl rfl (Nat.le_of_ble_eq_true rfl) (Nat.le_of_ble_eq_true rfl) (e_keepMost J16.1) ?_
        rintro _ w17 ⟨rfl, J18c, w17o, w17p⟩
        have J18 := J16.trans J18c
        refine ⟨am_len2 J16 J18c, ?_⟩
        show aw none _ 27 _ (51, [some (.ref 18), some (.ref 3), some (.int p), o3], []) w17
        refine aw_step (f1 := (54, [some (.ref 18), some (.ref 3), some (.int (p + Int32.ofInt 1)), o3], [])) (w1 := w17) rfl rfl ?_
        obtain ⟨x19, x19e⟩ : ∃ z, z = (p + Int32.ofInt 1) := ⟨_, rfl⟩
        have x19t : x19.toInt = p.toInt + (1) := by rw [x19e]; exact n_add (y := Int32.ofInt (1)) (by show _ ≤ _ + (1 : Int); omega) (by show _ + (1 : Int) ≤ _; omega)
        rw [← x19e]
        refine aw_step (f1 := (10, [some (.ref 18), some (.ref 3), some (.int x19), o3], [])) (w1 := w17) rfl rfl ?_
        refine ih w17 x19 _ (by omega) (by omega) (by omega) J18 ((O.trans (on19 w15o)).trans (on20 w17o)) (fun j hj => ?_)
        rw [show x19.toInt.toNat = p.toInt.toNat + 1 by omega]
        have dc := w15p
        rw [hl, hc] at dc
        have hs : szC w15 = szV V := by rw [← hsz]; unfold szC; rw [w15o.fIe (by decide), w15o.fIe (by decide)]
        exact ⟨_, M j hj, Or.inr ⟨by omega, rI w15 19 j, dc j (by omega), by rw [w17p j (by omega), w15o.rIe (by decide)]⟩⟩
theorem e_meeting {d : Nat} {w : am_W} {V : Nat → Int} (R : RCs w 3 V) (hv6 : 0 ≤ V 6 ∧ V 6 ≤ 15) (hp : ∀ p : Nat, p < 4 → bt (V 6).toNat p = 1 → 0 ≤ V (8 + 4 * p + 2) ∧ V (8 + 4 * p + 2) < szV V ∧ V (40 + (V (8 + 4 * p + 2)).toNat) ≠ 126) (I : ab_inv ab_TT ab_sets w) : aw none (d + 5) 27 (fun r w1 => ab_J ab_TT ab_sets ab_WR w w1 ∧ only [19, 20] w w1 ∧ ∃ z : Int32, r = some (.int z) ∧ (∀ j : Nat, (j : Int) < szV V → mxV V 4 j (rI w1 20 j)) ∧ btQ (rI w1 20) (szV V) z.toInt) (0, am_entry 27 [.ref 18, .ref 3], []) w := by
  have J : ab_J ab_TT ab_sets ab_WR w w := ⟨I, ab_fr.rf⟩
  have szc := szC_in I
  have hsz := R.sz
  show aw none (d + 5) 27 _ (0, [some (.ref 18), some (.ref 3), none, none], []) w
  refine aw_step (f1 := (1, [some (.ref 18), some (.ref 3), none, none], [(.ref 18)])) (w1 := w) rfl rfl ?_
  refine s_gr 20 J 4 rfl rfl rfl rfl rfl rfl ?_
  refine s_i (pc1 := 5) (ls1 := [some (.ref 18), some (.ref 3), none, none]) (st1 := [(.ref 20)]) rfl rfl fun x1 e2 => ?_
  have e2t : x1.toInt = 0 := by rw [e2]; rfl
  refine s_cs (z := 192) (as := [(.ref 20), (.int x1)]) (st1 := []) 8 rfl rfl rfl rfl rfl rfl (Nat.le_of_ble_eq_true rfl) (Nat.le_of_ble_eq_true rfl) (Nat.le_of_ble_eq_true rfl) (e_fill20 x1 J.1) ?_
  rintro _ w3 ⟨rfl, J4c, w3o, w3p⟩
  have J4 := J.trans J4c
  refine ⟨am_len2 J J4c, ?_⟩
  show aw none _ 27 _ (8, [some (.ref 18), some (.ref 3), none, none], []) w3
  refine s_i (pc1 := 9) (ls1 := [some (.ref 18), some (.ref 3), none, none]) (st1 := []) rfl rfl fun x5 e6 => ?_
  have e6t : x5.toInt = 0 := by rw [e6]; rfl
  refine aw_step (f1 := (10, [some (.ref 18), some (.ref 3), some (.int x5), none], [])) (w1 := w3) rfl rfl ?_
  exact e_mtP R hv6 hp I 5 w3 x5 _ (by omega) (by omega) (by omega) J4 (on20 w3o) (fun j hj => by rw [show x5.toInt.toNat = 0 by omega]; show _ = (0 : Int); rw [w3p j (by omega)]; omega)
theorem e_meet {d : Nat} {w : am_W} {V : Nat → Int} (R : RCs w 3 V) (hv6 : 0 ≤ V 6 ∧ V 6 ≤ 15) (hp : ∀ p : Nat, p < 4 → bt (V 6).toNat p = 1 → 0 ≤ V (8 + 4 * p + 2) ∧ V (8 + 4 * p + 2) < szV V ∧ V (40 + (V (8 + 4 * p + 2)).toNat) ≠ 126) (wh : Int32) (I : ab_inv ab_TT ab_sets w) : aw none (d + 6) 81 (fun r w1 => ab_J ab_TT ab_sets ab_WR w w1 ∧ ∃ z : Int32, r = some (.int z) ∧ metP V wh.toInt z.toInt) (0, am_entry 81 [.ref 0, .int wh], []) w := by
  have J : ab_J ab_TT ab_sets ab_WR w w := ⟨I, ab_fr.rf⟩
  have szc := szC_in I
  have hsz := R.sz
  have r6 := R.f3
  show aw none (d + 6) 81 _ (0, [some (.ref 0), some (.int wh), none], []) w
  refine aw_step (f1 := (1, [some (.ref 0), some (.int wh), none], [(.int wh)])) (w1 := w) rfl rfl ?_
  refine s_i (pc1 := 2) (ls1 := [some (.ref 0), some (.int wh), none]) (st1 := [(.int wh)]) rfl rfl fun x1 e2 => ?_
  have e2t : x1.toInt = 0 := by rw [e2]; rfl
  refine s_i (pc1 := 3) (ls1 := [some (.ref 0), some (.int wh), none]) (st1 := [(.int x1), (.int wh)]) rfl rfl fun x3 e4 => ?_
  have e4t : x3.toInt = 1 := by rw [e4]; rfl
  refine s_cs (z := 102) (as := [(.int wh), (.int x1), (.int x3)]) (st1 := []) 6 rfl rfl rfl rfl rfl rfl (Nat.le_of_ble_eq_true rfl) (Nat.le_of_ble_eq_true rfl) (Nat.le_of_ble_eq_true rfl) (q_within wh x1 x3) ?_
  rintro _ _ ⟨rfl, x5, rfl, x5t⟩
  refine ⟨rfl, ?_⟩
  show aw none _ 81 _ (6, [some (.ref 0), some (.int wh), none], [(.int x5)]) w
  refine s_if 12 9 rfl rfl rfl (fun (h6 : ¬ x5.toInt = 0) => ?_) (fun (h6 : ¬ (¬ x5.toInt = 0)) => ?_)
  · --
    refine aw_step (f1 := (13, [some (.ref 0), some (.int wh), none], [(.ref 0)])) (w1 := w) rfl rfl ?_
    refine s_gr 3 J 16 rfl rfl rfl rfl rfl rfl ?_
    refine s_gi J 19 rfl rfl rfl rfl rfl rfl fun x7 x7a x7b x7f => ?_
    have x7v : x7.toInt = fI w 3 3 := by rw [← fI_of x7f]
    refine s_if 25 22 rfl rfl rfl (fun (h8 : ¬ x7.toInt = 0) => ?_) (fun (h8 : ¬ (¬ x7.toInt = 0)) => ?_)
    · --
      refine aw_step (f1 := (26, [some (.ref 0), some (.int wh), none], [(.ref 0)])) (w1 := w) rfl rfl ?_
      refine s_gr 18 J 29 rfl rfl rfl rfl rfl rfl ?_
      refine aw_step (f1 := (30, [some (.ref 0), some (.int wh), none], [(.ref 0), (.ref 18)])) (w1 := w) rfl rfl ?_
      refine s_gr 3 J 33 rfl rfl rfl rfl rfl rfl ?_
      refine s_cv (z := 27) (p := 18) (as := [(.ref 3)]) (st1 := []) J 36 rfl rfl rfl rfl rfl rfl rfl rfl (Nat.le_of_ble_eq_true rfl) (Nat.le_of_ble_eq_true rfl) (e_meeting R hv6 hp J.1) ?_
      rintro _ w10 ⟨J11c, w10o, x9, rfl, w10m, x9t⟩
      have J11 := J.trans J11c
      refine ⟨am_len2 J J11c, ?_⟩
      show aw none _ 81 _ (36, [some (.ref 0), some (.int wh), none], [(.int x9)]) w10
      have x9b := x9t.b
      refine aw_step (f1 := (37, [some (.ref 0), some (.int wh), some (.int x9)], [])) (w1 := w10) rfl rfl ?_
      refine aw_step (f1 := (38, [some (.ref 0), some (.int wh), some (.int x9)], [(.int x9)])) (w1 := w10) rfl rfl ?_
      refine s_i (pc1 := 40) (ls1 := [some (.ref 0), some (.int wh), some (.int x9)]) (st1 := [(.int x9)]) rfl rfl fun x12 e13 => ?_
      have e13t : x12.toInt = -6 := by rw [e13]; rfl
      refine s_ic 46 43 rfl rfl rfl (fun (h14 : ¬ x9.toInt = x12.toInt) => ?_) (fun (h14 : ¬ (¬ x9.toInt = x12.toInt)) => ?_)
      · --
        refine aw_step (f1 := (47, [some (.ref 0), some (.int wh), some (.int x9)], [(.int wh)])) (w1 := w10) rfl rfl ?_
        refine s_if 62 50 rfl rfl rfl (fun (h15 : ¬ wh.toInt = 0) => ?_) (fun (h15 : ¬ (¬ wh.toInt = 0)) => ?_)
        · --
          refine aw_step (f1 := (63, [some (.ref 0), some (.int wh), some (.int x9)], [(.int x9)])) (w1 := w10) rfl rfl ?_
          refine aw_ret (v := some (.int x9)) rfl rfl ?_
          refine ⟨J11, x9, rfl, Or.inr (Or.inr ⟨⟨by omega, by omega⟩, by omega, ?_⟩)⟩
          rcases x9t with ⟨q1, q2⟩ | ⟨q1, q2, q3⟩
          · first
            | (exfalso; omega)
            | exact Or.inl ⟨by omega, fun j hj => by rw [← q2 j hj]; exact w10m j hj⟩
          · first
            | (exfalso; omega)
            | (refine Or.inr ⟨x9.toInt.toNat, rI w10 20 x9.toInt.toNat, ⟨by omega, w10m _ (by omega), q2, fun j m' hj hm => ?_⟩, by omega⟩
               have e := mxV.uniq (w10m j hj) hm
               have := q3 j hj
               omega)
        · --
          refine aw_step (f1 := (51, [some (.ref 0), some (.int wh), some (.int x9)], [(.ref 0)])) (w1 := w10) rfl rfl ?_
          refine s_gr 18 J11 54 rfl rfl rfl rfl rfl rfl ?_
          refine s_gr 20 J11 57 rfl rfl rfl rfl rfl rfl ?_
          refine aw_step (f1 := (58, [some (.ref 0), some (.int wh), some (.int x9)], [(.int x9), (.ref 20)])) (w1 := w10) rfl rfl ?_
          refine s_ia J11 59 rfl rfl rfl rfl (by omega) (by omega) fun x16 x16a x16b x16f => ?_
          --
          have hv : x16.toInt = rI w10 20 x9.toInt.toNat := (rI_of x16f).symm
          refine aw_step (f1 := (63, [some (.ref 0), some (.int wh), some (.int x9)], [(.int x16)])) (w1 := w10) rfl rfl ?_
          refine aw_ret (v := some (.int x16)) rfl rfl ?_
          refine ⟨J11, x16, rfl, Or.inr (Or.inr ⟨⟨by omega, by omega⟩, by omega, ?_⟩)⟩
          rcases x9t with ⟨q1, q2⟩ | ⟨q1, q2, q3⟩
          · first
            | (exfalso; omega)
            | exact Or.inl ⟨by omega, fun j hj => by rw [← q2 j hj]; exact w10m j hj⟩
          · first
            | (exfalso; omega)
            | (refine Or.inr ⟨x9.toInt.toNat, rI w10 20 x9.toInt.toNat, ⟨by omega, w10m _ (by omega), q2, fun j m' hj hm => ?_⟩, by omega⟩
               have e := mxV.uniq (w10m j hj) hm
               have := q3 j hj
               omega)
      · --
        refine s_i (pc1 := 45) (ls1 := [some (.ref 0), some (.int wh), some (.int x9)]) (st1 := []) rfl rfl fun x17 e18 => ?_
        have e18t : x17.toInt = -6 := by rw [e18]; rfl
        refine aw_ret (v := some (.int x17)) rfl rfl ?_
        refine ⟨J11, x17, rfl, Or.inr (Or.inr ⟨⟨by omega, by omega⟩, by omega, ?_⟩)⟩
        rcases x9t with ⟨q1, q2⟩ | ⟨q1, q2, q3⟩
        · first
          | (exfalso; omega)
          | exact Or.inl ⟨by omega, fun j hj => by rw [← q2 j hj]; exact w10m j hj⟩
        · first
          | (exfalso; omega)
          | (refine Or.inr ⟨x9.toInt.toNat, rI w10 20 x9.toInt.toNat, ⟨by omega, w10m _ (by omega), q2, fun j m' hj hm => ?_⟩, by omega⟩
             have e := mxV.uniq (w10m j hj) hm
             have := q3 j hj
             omega)
    · --
      refine s_i (pc1 := 24) (ls1 := [some (.ref 0), some (.int wh), none]) (st1 := []) rfl rfl fun x19 e20 => ?_
      have e20t : x19.toInt = -3 := by rw [e20]; rfl
      refine aw_ret (v := some (.int x19)) rfl rfl ?_
      first
        | exact ⟨J, x19, rfl, Or.inl ⟨by omega, by omega⟩⟩
        | exact ⟨J, x19, rfl, Or.inr (Or.inl ⟨by omega, ⟨by omega, by omega⟩, by omega⟩)⟩
  · --
    refine s_i (pc1 := 11) (ls1 := [some (.ref 0), some (.int wh), none]) (st1 := []) rfl rfl fun x21 e22 => ?_
    have e22t : x21.toInt = -2 := by rw [e22]; rfl
    refine aw_ret (v := some (.int x21)) rfl rfl ?_
    first
      | exact ⟨J, x21, rfl, Or.inl ⟨by omega, by omega⟩⟩
      | exact ⟨J, x21, rfl, Or.inr (Or.inl ⟨by omega, ⟨by omega, by omega⟩, by omega⟩)⟩
noncomputable def nn (x : Int) : Int := if x = 100000 then -6 else x
theorem nn_y {x : Int} (h : x = 100000) : nn x = -6 := by unfold nn; rw [if_pos h]
theorem nn_n {x : Int} (h : x ≠ 100000) : nn x = x := by unfold nn; rw [if_neg h]
theorem nn_mx {a b c : Int} (a0 : 0 ≤ a ∧ a ≤ 100000) (b0 : 0 ≤ b ∧ b ≤ 100000) (e : c = if a < b then b else a) : nn c = mx2 (nn a) (nn b) := by
  by_cases q : a = 100000
  · rw [nn_y q, mx2_n (Or.inl rfl), nn_y]; rw [e]; split <;> omega
  · by_cases q2 : b = 100000
    · rw [nn_y q2, mx2_n (Or.inr rfl), nn_y]; rw [e]; split <;> omega
    · rw [nn_n q, nn_n q2, mx2_y (by omega) (by omega), nn_n, e]; rw [e]; split <;> omega
theorem ds_dm {V : Nat → Int} {L : Int} {f j : Nat} {r : Nat → Int} (dm : dmV V L f r) (hr : ∀ j : Nat, j < 36 → r j = 100000 ∨ (0 ≤ r j ∧ r j < 36)) (hj : j < 36) : dsV V L f j (nn (r j)) := by
  have a := hr j hj
  by_cases q : r j = 100000
  · rw [nn_y q]
    exact Or.inl ⟨rfl, fun h => by have := (dmV_36 dm hr hj).mpr h; omega⟩
  · rw [nn_n q]
    exact Or.inr ⟨(r j).toNat, by omega, by omega, (dmV_fr dm hr hj (by omega)).mp (by omega)⟩
noncomputable def btM (r : Nat → Int) (i z l : Int) : Prop := (z = -6 ∧ l = 100000 ∧ ∀ j : Nat, (j : Int) < i → r j = 100000) ∨ ((0 ≤ z ∧ z < i) ∧ l = r z.toNat ∧ l < 100000 ∧ ∀ j : Nat, (j : Int) < i → l < r j ∨ (l = r j ∧ z ≤ j))
theorem btM.b {r : Nat → Int} {i z l : Int} (h : btM r i z l) : (z = -6 ∧ l = 100000) ∨ (0 ≤ z ∧ z < i ∧ l < 100000) := by
  rcases h with h | h
  · exact Or.inl ⟨h.1, h.2.1⟩
  · exact Or.inr ⟨h.1.1, h.1.2, h.2.2.1⟩
theorem btM.st {r : Nat → Int} {i z l z' l' : Int} (h : btM r i z l) (h0 : 0 ≤ i) (h5 : r i.toNat ≤ 100000) (e : (z' = i ∧ l' = r i.toNat ∧ r i.toNat < l) ∨ (z' = z ∧ l' = l ∧ l ≤ r i.toNat)) : btM r (i + 1) z' l' := by
  have cs : ∀ j : Nat, (j : Int) < i + 1 → (j : Int) < i ∨ j = i.toNat := fun j hj => by omega
  rcases e with ⟨e1, e2, e3⟩ | ⟨e1, e2, e3⟩
  · subst e1
    subst e2
    rcases h with ⟨h1, h2, h3⟩ | ⟨h1, h2, h3, h4⟩
    · refine Or.inr ⟨by omega, rfl, by omega, fun j hj => ?_⟩
      rcases cs j hj with q | q
      · have := h3 j q; omega
      · rw [q]; omega
    · refine Or.inr ⟨by omega, rfl, by omega, fun j hj => ?_⟩
      rcases cs j hj with q | q
      · have := h4 j q; omega
      · rw [q]; omega
  · subst e1
    subst e2
    rcases h with ⟨h1, h2, h3⟩ | ⟨h1, h2, h3, h4⟩
    · refine Or.inl ⟨by omega, h2, fun j hj => ?_⟩
      rcases cs j hj with q | q
      · exact h3 j q
      · rw [q]; omega
    · refine Or.inr ⟨by omega, h2, by omega, fun j hj => ?_⟩
      rcases cs j hj with q | q
      · exact h4 j q
      · rw [q]; omega
noncomputable def ow4 : List Nat := [74, 77, 83]
theorem o74 {w w1 : am_W} (h : only [74] w w1) : only ow4 w w1 := h.sub fun q hq => by rw [List.mem_singleton.mp hq]; decide
theorem o77 {w w1 : am_W} (h : only [77] w w1) : only ow4 w w1 := h.sub fun q hq => by rw [List.mem_singleton.mp hq]; decide
theorem o83 {w w1 : am_W} (h : only [83] w w1) : only ow4 w w1 := h.sub fun q hq => by rw [List.mem_singleton.mp hq]; decide
theorem rI_83 {w : am_W} (I : ab_inv ab_TT ab_sets w) {j : Nat} (hj : j < 36) : 0 ≤ rI w 83 j ∧ rI w 83 j ≤ 100000 := rI_in I (p := 83) rfl hj
theorem f_mtF {d : Nat} {Q : Option Value → am_W → Prop} {w : am_W} {V : Nat → Int} (R : RMs w V) (wh : Int32) (hwh : 0 ≤ wh.toInt ∧ wh.toInt ≤ 1) (J : ab_J ab_TT ab_sets ab_WR w w) (M : ∀ j : Nat, (j : Int) < szV V → mxV V 4 j (nn (rI w 83 j))) (hs : ∀ j : Nat, (j : Int) < szV V → V (40 + j) = 126 → rI w 83 j = 100000) (K : ∀ z : Int32, ((z.toInt = -6 ∧ ∀ j : Nat, (j : Int) < szV V → mxV V 4 j (-6)) ∨ ∃ (c : Nat) (m : Int), bsV V c m ∧ ((wh.toInt = 0 ∧ z.toInt = m) ∨ (wh.toInt = 1 ∧ z.toInt = c))) → Q (some (.int z)) w) : ∀ (m : Nat) (z l c : Int32) (o5 : Option Value), (szV V - c.toInt).toNat < m → 0 ≤ c.toInt → c.toInt ≤ szV V → btM (rI w 83) c.toInt z.toInt l.toInt → aw none (d + 3) 159 Q (150, [some (.ref 65), some (.int wh), some (.int z), some (.int l), some (.int c), o5], []) w := by
  have szm := szM_in J.1
  have hsz := R.sz
  intro m
  induction m with
  | zero => intro z l c o5 p; omega
  | succ m ih =>
    intro z l c o5 p1 p2 p3 F
    have zb := F.b
    refine aw_step (f1 := (152, [some (.ref 65), some (.int wh), some (.int z), some (.int l), some (.int c), o5], [(.int c)])) (w1 := w) rfl rfl ?_
    refine aw_step (f1 := (153, [some (.ref 65), some (.int wh), some (.int z), some (.int l), some (.int c), o5], [(.ref 65), (.int c)])) (w1 := w) rfl rfl ?_
    refine s_cv (z := 113) (p := 65) (as := []) (st1 := [(.int c)]) J 156 rfl rfl rfl rfl rfl rfl rfl rfl (Nat.le_of_ble_eq_true rfl) (Nat.le_of_ble_eq_true rfl) (q_cells J.1) ?_
    rintro _ _ ⟨rfl, x1, rfl, x1t⟩
    refine ⟨rfl, ?_⟩
    show aw none _ 159 _ (156, [some (.ref 65), some (.int wh), some (.int z), some (.int l), some (.int c), o5], [(.int x1), (.int c)]) w
    have x1s := szM_in J.1
    refine s_ic 221 159 rfl rfl rfl (fun (h2 : x1.toInt ≤ c.toInt) => ?_) (fun (h2 : ¬ (x1.toInt ≤ c.toInt)) => ?_)
    · --
      refine aw_step (f1 := (222, [some (.ref 65), some (.int wh), some (.int z), some (.int l), some (.int c), o5], [(.int z)])) (w1 := w) rfl rfl ?_
      refine s_if 230 225 rfl rfl rfl (fun (h3 : z.toInt < 0) => ?_) (fun (h3 : ¬ (z.toInt < 0)) => ?_)
      · --
        refine aw_step (f1 := (231, [some (.ref 65), some (.int wh), some (.int z), some (.int l), some (.int c), o5], [(.int z)])) (w1 := w) rfl rfl ?_
        refine aw_step (f1 := (235, [some (.ref 65), some (.int wh), some (.int z), some (.int l), some (.int c), o5], [(.int z)])) (w1 := w) rfl rfl ?_
        refine aw_ret (v := some (.int z)) rfl rfl ?_
        rw [show c.toInt = szV V by omega] at F
        refine K z ?_
        rcases F with ⟨q1, q2, q3⟩ | ⟨q1, q2, q3, q4⟩
        · first
          | (exfalso; omega)
          | exact Or.inl ⟨by omega, fun j hj => by rw [← nn_y (q3 j hj)]; exact M j hj⟩
        · first
          | (exfalso; omega)
          | (refine Or.inr ⟨z.toInt.toNat, l.toInt, ⟨by omega, by rw [q2]; rw [← nn_n (show rI w 83 z.toInt.toNat ≠ 100000 by omega)]; exact M _ (by omega), by have := rI_83 J.1 (j := z.toInt.toNat) (by omega); omega, fun j m' hj hm => ?_⟩, by omega⟩
             have e := mxV.uniq (M j hj) hm
             have := q4 j hj
             by_cases u : rI w 83 j = 100000
             · rw [nn_y u] at e; exact Or.inl e
             · rw [nn_n u] at e; omega)
      · --
        refine aw_step (f1 := (226, [some (.ref 65), some (.int wh), some (.int z), some (.int l), some (.int c), o5], [(.int wh)])) (w1 := w) rfl rfl ?_
        refine s_i (pc1 := 227) (ls1 := [some (.ref 65), some (.int wh), some (.int z), some (.int l), some (.int c), o5]) (st1 := [(.int wh)]) rfl rfl fun x4 e5 => ?_
        have e5t : x4.toInt = 1 := by rw [e5]; rfl
        refine s_ic 234 230 rfl rfl rfl (fun (h6 : ¬ wh.toInt = x4.toInt) => ?_) (fun (h6 : ¬ (¬ wh.toInt = x4.toInt)) => ?_)
        · --
          refine aw_step (f1 := (235, [some (.ref 65), some (.int wh), some (.int z), some (.int l), some (.int c), o5], [(.int l)])) (w1 := w) rfl rfl ?_
          refine aw_ret (v := some (.int l)) rfl rfl ?_
          rw [show c.toInt = szV V by omega] at F
          refine K l ?_
          rcases F with ⟨q1, q2, q3⟩ | ⟨q1, q2, q3, q4⟩
          · first
            | (exfalso; omega)
            | exact Or.inl ⟨by omega, fun j hj => by rw [← nn_y (q3 j hj)]; exact M j hj⟩
          · first
            | (exfalso; omega)
            | (refine Or.inr ⟨z.toInt.toNat, l.toInt, ⟨by omega, by rw [q2]; rw [← nn_n (show rI w 83 z.toInt.toNat ≠ 100000 by omega)]; exact M _ (by omega), by have := rI_83 J.1 (j := z.toInt.toNat) (by omega); omega, fun j m' hj hm => ?_⟩, by omega⟩
               have e := mxV.uniq (M j hj) hm
               have := q4 j hj
               by_cases u : rI w 83 j = 100000
               · rw [nn_y u] at e; exact Or.inl e
               · rw [nn_n u] at e; omega)
        · --
          refine aw_step (f1 := (231, [some (.ref 65), some (.int wh), some (.int z), some (.int l), some (.int c), o5], [(.int z)])) (w1 := w) rfl rfl ?_
          refine aw_step (f1 := (235, [some (.ref 65), some (.int wh), some (.int z), some (.int l), some (.int c), o5], [(.int z)])) (w1 := w) rfl rfl ?_
          refine aw_ret (v := some (.int z)) rfl rfl ?_
          rw [show c.toInt = szV V by omega] at F
          refine K z ?_
          rcases F with ⟨q1, q2, q3⟩ | ⟨q1, q2, q3, q4⟩
          · first
            | (exfalso; omega)
            | exact Or.inl ⟨by omega, fun j hj => by rw [← nn_y (q3 j hj)]; exact M j hj⟩
          · first
            | (exfalso; omega)
            | (refine Or.inr ⟨z.toInt.toNat, l.toInt, ⟨by omega, by rw [q2]; rw [← nn_n (show rI w 83 z.toInt.toNat ≠ 100000 by omega)]; exact M _ (by omega), by have := rI_83 J.1 (j := z.toInt.toNat) (by omega); omega, fun j m' hj hm => ?_⟩, by omega⟩
               have e := mxV.uniq (M j hj) hm
               have := q4 j hj
               by_cases u : rI w 83 j = 100000
               · rw [nn_y u] at e; exact Or.inl e
               · rw [nn_n u] at e; omega)
    · --
      refine aw_step (f1 := (160, [some (.ref 65), some (.int wh), some (.int z), some (.int l), some (.int c), o5], [(.ref 65)])) (w1 := w) rfl rfl ?_
      refine aw_step (f1 := (162, [some (.ref 65), some (.int wh), some (.int z), some (.int l), some (.int c), o5], [(.int c), (.ref 65)])) (w1 := w) rfl rfl ?_
      refine s_cv (z := 115) (p := 65) (as := [(.int c)]) (st1 := []) J 165 rfl rfl rfl rfl rfl rfl rfl rfl (Nat.le_of_ble_eq_true rfl) (Nat.le_of_ble_eq_true rfl) (q_isLand c J.1) ?_
      rintro _ _ ⟨rfl, x7, rfl, x7t⟩
      refine ⟨rfl, ?_⟩
      show aw none _ 159 _ (165, [some (.ref 65), some (.int wh), some (.int z), some (.int l), some (.int c), o5], [(.int x7)]) w
      have x7s := szM_in J.1
      refine s_if 183 168 rfl rfl rfl (fun (h8 : x7.toInt = 0) => ?_) (fun (h8 : ¬ (x7.toInt = 0)) => ?_)
      · --
        refine s_i (pc1 := 184) (ls1 := [some (.ref 65), some (.int wh), some (.int z), some (.int l), some (.int c), o5]) (st1 := []) rfl rfl fun x9 e10 => ?_
        have e10t : x9.toInt = 0 := by rw [e10]; rfl
        refine aw_step (f1 := (186, [some (.ref 65), some (.int wh), some (.int z), some (.int l), some (.int c), some (.int x9)], [])) (w1 := w) rfl rfl ?_
        refine aw_step (f1 := (188, [some (.ref 65), some (.int wh), some (.int z), some (.int l), some (.int c), some (.int x9)], [(.int x9)])) (w1 := w) rfl rfl ?_
        refine s_if 196 191 rfl rfl rfl (fun (h11 : x9.toInt = 0) => ?_) (fun (h11 : ¬ (x9.toInt = 0)) => ?_)
        · --
          refine aw_step (f1 := (197, [some (.ref 65), some (.int wh), some (.int z), some (.int l), some (.int c), some (.int x9)], [(.int z)])) (w1 := w) rfl rfl ?_
          refine aw_step (f1 := (198, [some (.ref 65), some (.int wh), some (.int z), some (.int l), some (.int c), some (.int x9)], [])) (w1 := w) rfl rfl ?_
          refine aw_step (f1 := (200, [some (.ref 65), some (.int wh), some (.int z), some (.int l), some (.int c), some (.int x9)], [(.int x9)])) (w1 := w) rfl rfl ?_
          refine s_if 213 203 rfl rfl rfl (fun (h12 : x9.toInt = 0) => ?_) (fun (h12 : ¬ (x9.toInt = 0)) => ?_)
          · --
            refine aw_step (f1 := (214, [some (.ref 65), some (.int wh), some (.int z), some (.int l), some (.int c), some (.int x9)], [(.int l)])) (w1 := w) rfl rfl ?_
            refine aw_step (f1 := (215, [some (.ref 65), some (.int wh), some (.int z), some (.int l), some (.int c), some (.int x9)], [])) (w1 := w) rfl rfl ?_
            refine aw_step (f1 := (218, [some (.ref 65), some (.int wh), some (.int z), some (.int l), some (.int (c + Int32.ofInt 1)), some (.int x9)], [])) (w1 := w) rfl rfl ?_
            obtain ⟨x13, x13e⟩ : ∃ z, z = (c + Int32.ofInt 1) := ⟨_, rfl⟩
            have x13t : x13.toInt = c.toInt + (1) := by rw [x13e]; exact n_add (y := Int32.ofInt (1)) (by show _ ≤ _ + (1 : Int); omega) (by show _ + (1 : Int) ≤ _; omega)
            rw [← x13e]
            refine aw_step (f1 := (150, [some (.ref 65), some (.int wh), some (.int z), some (.int l), some (.int x13), some (.int x9)], [])) (w1 := w) rfl rfl ?_
            refine ih z l x13 _ (by omega) (by omega) (by omega) ?_
            rw [show x13.toInt = c.toInt + 1 by omega]
            have h5 := rI_83 J.1 (j := c.toInt.toNat) (by omega)
            have hse := hs c.toInt.toNat (by omega)
            have hla := R.rc (i := c.toInt.toNat) (by omega)
            exact F.st (by omega) (by omega) (by omega)
          · --
            refine aw_step (f1 := (204, [some (.ref 65), some (.int wh), some (.int z), some (.int l), some (.int c), some (.int x9)], [(.ref 65)])) (w1 := w) rfl rfl ?_
            refine s_gr 83 J 207 rfl rfl rfl rfl rfl rfl ?_
            refine aw_step (f1 := (209, [some (.ref 65), some (.int wh), some (.int z), some (.int l), some (.int c), some (.int x9)], [(.int c), (.ref 83)])) (w1 := w) rfl rfl ?_
            refine s_ia J 210 rfl rfl rfl rfl (by omega) (by omega) fun x14 x14a x14b x14f => ?_
            have x14v : x14.toInt = rI w 83 c.toInt.toNat := by rw [← rI_of x14f]
            refine aw_step (f1 := (214, [some (.ref 65), some (.int wh), some (.int z), some (.int l), some (.int c), some (.int x9)], [(.int x14)])) (w1 := w) rfl rfl ?_
            refine aw_step (f1 := (215, [some (.ref 65), some (.int wh), some (.int z), some (.int x14), some (.int c), some (.int x9)], [])) (w1 := w) rfl rfl ?_
            refine aw_step (f1 := (218, [some (.ref 65), some (.int wh), some (.int z), some (.int x14), some (.int (c + Int32.ofInt 1)), some (.int x9)], [])) (w1 := w) rfl rfl ?_
            obtain ⟨x15, x15e⟩ : ∃ z, z = (c + Int32.ofInt 1) := ⟨_, rfl⟩
            have x15t : x15.toInt = c.toInt + (1) := by rw [x15e]; exact n_add (y := Int32.ofInt (1)) (by show _ ≤ _ + (1 : Int); omega) (by show _ + (1 : Int) ≤ _; omega)
            rw [← x15e]
            refine aw_step (f1 := (150, [some (.ref 65), some (.int wh), some (.int z), some (.int x14), some (.int x15), some (.int x9)], [])) (w1 := w) rfl rfl ?_
            refine ih z x14 x15 _ (by omega) (by omega) (by omega) ?_
            rw [show x15.toInt = c.toInt + 1 by omega]
            have h5 := rI_83 J.1 (j := c.toInt.toNat) (by omega)
            have hse := hs c.toInt.toNat (by omega)
            have hla := R.rc (i := c.toInt.toNat) (by omega)
            exact F.st (by omega) (by omega) (by omega)
        · --
          refine aw_step (f1 := (193, [some (.ref 65), some (.int wh), some (.int z), some (.int l), some (.int c), some (.int x9)], [(.int c)])) (w1 := w) rfl rfl ?_
          refine aw_step (f1 := (197, [some (.ref 65), some (.int wh), some (.int z), some (.int l), some (.int c), some (.int x9)], [(.int c)])) (w1 := w) rfl rfl ?_
          refine aw_step (f1 := (198, [some (.ref 65), some (.int wh), some (.int c), some (.int l), some (.int c), some (.int x9)], [])) (w1 := w) rfl rfl ?_
          refine aw_step (f1 := (200, [some (.ref 65), some (.int wh), some (.int c), some (.int l), some (.int c), some (.int x9)], [(.int x9)])) (w1 := w) rfl rfl ?_
          refine s_if 213 203 rfl rfl rfl (fun (h16 : x9.toInt = 0) => ?_) (fun (h16 : ¬ (x9.toInt = 0)) => ?_)
          · --
            refine aw_step (f1 := (214, [some (.ref 65), some (.int wh), some (.int c), some (.int l), some (.int c), some (.int x9)], [(.int l)])) (w1 := w) rfl rfl ?_
            refine aw_step (f1 := (215, [some (.ref 65), some (.int wh), some (.int c), some (.int l), some (.int c), some (.int x9)], [])) (w1 := w) rfl rfl ?_
            refine aw_step (f1 := (218, [some (.ref 65), some (.int wh), some (.int c), some (.int l), some (.int (c + Int32.ofInt 1)), some (.int x9)], [])) (w1 := w) rfl rfl ?_
            obtain ⟨x17, x17e⟩ : ∃ z, z = (c + Int32.ofInt 1) := ⟨_, rfl⟩
            have x17t : x17.toInt = c.toInt + (1) := by rw [x17e]; exact n_add (y := Int32.ofInt (1)) (by show _ ≤ _ + (1 : Int); omega) (by show _ + (1 : Int) ≤ _; omega)
            rw [← x17e]
            refine aw_step (f1 := (150, [some (.ref 65), some (.int wh), some (.int c), some (.int l), some (.int x17), some (.int x9)], [])) (w1 := w) rfl rfl ?_
            refine ih c l x17 _ (by omega) (by omega) (by omega) ?_
            rw [show x17.toInt = c.toInt + 1 by omega]
            have h5 := rI_83 J.1 (j := c.toInt.toNat) (by omega)
            have hse := hs c.toInt.toNat (by omega)
            have hla := R.rc (i := c.toInt.toNat) (by omega)
            exact F.st (by omega) (by omega) (by omega)
          · --
            refine aw_step (f1 := (204, [some (.ref 65), some (.int wh), some (.int c), some (.int l), some (.int c), some (.int x9)], [(.ref 65)])) (w1 := w) rfl rfl ?_
            refine s_gr 83 J 207 rfl rfl rfl rfl rfl rfl ?_
            refine aw_step (f1 := (209, [some (.ref 65), some (.int wh), some (.int c), some (.int l), some (.int c), some (.int x9)], [(.int c), (.ref 83)])) (w1 := w) rfl rfl ?_
            refine s_ia J 210 rfl rfl rfl rfl (by omega) (by omega) fun x18 x18a x18b x18f => ?_
            have x18v : x18.toInt = rI w 83 c.toInt.toNat := by rw [← rI_of x18f]
            refine aw_step (f1 := (214, [some (.ref 65), some (.int wh), some (.int c), some (.int l), some (.int c), some (.int x9)], [(.int x18)])) (w1 := w) rfl rfl ?_
            refine aw_step (f1 := (215, [some (.ref 65), some (.int wh), some (.int c), some (.int x18), some (.int c), some (.int x9)], [])) (w1 := w) rfl rfl ?_
            refine aw_step (f1 := (218, [some (.ref 65), some (.int wh), some (.int c), some (.int x18), some (.int (c + Int32.ofInt 1)), some (.int x9)], [])) (w1 := w) rfl rfl ?_
            obtain ⟨x19, x19e⟩ : ∃ z, z = (c + Int32.ofInt 1) := ⟨_, rfl⟩
            have x19t : x19.toInt = c.toInt + (1) := by rw [x19e]; exact n_add (y := Int32.ofInt (1)) (by show _ ≤ _ + (1 : Int); omega) (by show _ + (1 : Int) ≤ _; omega)
            rw [← x19e]
            refine aw_step (f1 := (150, [some (.ref 65), some (.int wh), some (.int c), some (.int x18), some (.int x19), some (.int x9)], [])) (w1 := w) rfl rfl ?_
            refine ih c x18 x19 _ (by omega) (by omega) (by omega) ?_
            rw [show x19.toInt = c.toInt + 1 by omega]
            have h5 := rI_83 J.1 (j := c.toInt.toNat) (by omega)
            have hse := hs c.toInt.toNat (by omega)
            have hla := R.rc (i := c.toInt.toNat) (by omega)
            exact F.st (by omega) (by omega) (by omega)
      · --
        refine aw_step (f1 := (169, [some (.ref 65), some (.int wh), some (.int z), some (.int l), some (.int c), o5], [(.ref 65)])) (w1 := w) rfl rfl ?_
        refine s_gr 83 J 172 rfl rfl rfl rfl rfl rfl ?_
        refine aw_step (f1 := (174, [some (.ref 65), some (.int wh), some (.int z), some (.int l), some (.int c), o5], [(.int c), (.ref 83)])) (w1 := w) rfl rfl ?_
        refine s_ia J 175 rfl rfl rfl rfl (by omega) (by omega) fun x20 x20a x20b x20f => ?_
        have x20v : x20.toInt = rI w 83 c.toInt.toNat := by rw [← rI_of x20f]
        refine aw_step (f1 := (176, [some (.ref 65), some (.int wh), some (.int z), some (.int l), some (.int c), o5], [(.int l), (.int x20)])) (w1 := w) rfl rfl ?_
        refine s_ic 183 179 rfl rfl rfl (fun (h21 : l.toInt ≤ x20.toInt) => ?_) (fun (h21 : ¬ (l.toInt ≤ x20.toInt)) => ?_)
        · --
          refine s_i (pc1 := 184) (ls1 := [some (.ref 65), some (.int wh), some (.int z), some (.int l), some (.int c), o5]) (st1 := []) rfl rfl fun x22 e23 => ?_
          have e23t : x22.toInt = 0 := by rw [e23]; rfl
          refine aw_step (f1 := (186, [some (.ref 65), some (.int wh), some (.int z), some (.int l), some (.int c), some (.int x22)], [])) (w1 := w) rfl rfl ?_
          refine aw_step (f1 := (188, [some (.ref 65), some (.int wh), some (.int z), some (.int l), some (.int c), some (.int x22)], [(.int x22)])) (w1 := w) rfl rfl ?_
          refine s_if 196 191 rfl rfl rfl (fun (h24 : x22.toInt = 0) => ?_) (fun (h24 : ¬ (x22.toInt = 0)) => ?_)
          · --
            refine aw_step (f1 := (197, [some (.ref 65), some (.int wh), some (.int z), some (.int l), some (.int c), some (.int x22)], [(.int z)])) (w1 := w) rfl rfl ?_
            refine aw_step (f1 := (198, [some (.ref 65), some (.int wh), some (.int z), some (.int l), some (.int c), some (.int x22)], [])) (w1 := w) rfl rfl ?_
            refine aw_step (f1 := (200, [some (.ref 65), some (.int wh), some (.int z), some (.int l), some (.int c), some (.int x22)], [(.int x22)])) (w1 := w) rfl rfl ?_
            refine s_if 213 203 rfl rfl rfl (fun (h25 : x22.toInt = 0) => ?_) (fun (h25 : ¬ (x22.toInt = 0)) => ?_)
            · --
              refine aw_step (f1 := (214, [some (.ref 65), some (.int wh), some (.int z), some (.int l), some (.int c), some (.int x22)], [(.int l)])) (w1 := w) rfl rfl ?_
              refine aw_step (f1 := (215, [some (.ref 65), some (.int wh), some (.int z), some (.int l), some (.int c), some (.int x22)], [])) (w1 := w) rfl rfl ?_
              refine aw_step (f1 := (218, [some (.ref 65), some (.int wh), some (.int z), some (.int l), some (.int (c + Int32.ofInt 1)), some (.int x22)], [])) (w1 := w) rfl rfl ?_
              obtain ⟨x26, x26e⟩ : ∃ z, z = (c + Int32.ofInt 1) := ⟨_, rfl⟩
              have x26t : x26.toInt = c.toInt + (1) := by rw [x26e]; exact n_add (y := Int32.ofInt (1)) (by show _ ≤ _ + (1 : Int); omega) (by show _ + (1 : Int) ≤ _; omega)
              rw [← x26e]
              refine aw_step (f1 := (150, [some (.ref 65), some (.int wh), some (.int z), some (.int l), some (.int x26), some (.int x22)], [])) (w1 := w) rfl rfl ?_
              refine ih z l x26 _ (by omega) (by omega) (by omega) ?_
              rw [show x26.toInt = c.toInt + 1 by omega]
              have h5 := rI_83 J.1 (j := c.toInt.toNat) (by omega)
              have hse := hs c.toInt.toNat (by omega)
              have hla := R.rc (i := c.toInt.toNat) (by omega)
              exact F.st (by omega) (by omega) (by omega)
            · --
              refine aw_step (f1 := (204, [some (.ref 65), some (.int wh), some (.int z), some (.int l), some (.int c), some (.int x22)], [(.ref 65)])) (w1 := w) rfl rfl ?_
              refine s_gr 83 J 207 rfl rfl rfl rfl rfl rfl ?_
              refine aw_step (f1 := (209, [some (.ref 65), some (.int wh), some (.int z), some (.int l), some (.int c), some (.int x22)], [(.int c), (.ref 83)])) (w1 := w) rfl rfl ?_
              refine s_ia J 210 rfl rfl rfl rfl (by omega) (by omega) fun x27 x27a x27b x27f => ?_
              have x27v : x27.toInt = rI w 83 c.toInt.toNat := by rw [← rI_of x27f]
              refine aw_step (f1 := (214, [some (.ref 65), some (.int wh), some (.int z), some (.int l), some (.int c), some (.int x22)], [(.int x27)])) (w1 := w) rfl rfl ?_
              refine aw_step (f1 := (215, [some (.ref 65), some (.int wh), some (.int z), some (.int x27), some (.int c), some (.int x22)], [])) (w1 := w) rfl rfl ?_
              refine aw_step (f1 := (218, [some (.ref 65), some (.int wh), some (.int z), some (.int x27), some (.int (c + Int32.ofInt 1)), some (.int x22)], [])) (w1 := w) rfl rfl ?_
              obtain ⟨x28, x28e⟩ : ∃ z, z = (c + Int32.ofInt 1) := ⟨_, rfl⟩
              have x28t : x28.toInt = c.toInt + (1) := by rw [x28e]; exact n_add (y := Int32.ofInt (1)) (by show _ ≤ _ + (1 : Int); omega) (by show _ + (1 : Int) ≤ _; omega)
              rw [← x28e]
              refine aw_step (f1 := (150, [some (.ref 65), some (.int wh), some (.int z), some (.int x27), some (.int x28), some (.int x22)], [])) (w1 := w) rfl rfl ?_
              refine ih z x27 x28 _ (by omega) (by omega) (by omega) ?_
              rw [show x28.toInt = c.toInt + 1 by omega]
              have h5 := rI_83 J.1 (j := c.toInt.toNat) (by omega)
              have hse := hs c.toInt.toNat (by omega)
              have hla := R.rc (i := c.toInt.toNat) (by omega)
              exact F.st (by omega) (by omega) (by omega)
          · --
            refine aw_step (f1 := (193, [some (.ref 65), some (.int wh), some (.int z), some (.int l), some (.int c), some (.int x22)], [(.int c)])) (w1 := w) rfl rfl ?_
            refine aw_step (f1 := (197, [some (.ref 65), some (.int wh), some (.int z), some (.int l), some (.int c), some (.int x22)], [(.int c)])) (w1 := w) rfl rfl ?_
            refine aw_step (f1 := (198, [some (.ref 65), some (.int wh), some (.int c), some (.int l), some (.int c), some (.int x22)], [])) (w1 := w) rfl rfl ?_
            refine aw_step (f1 := (200, [some (.ref 65), some (.int wh), some (.int c), some (.int l), some (.int c), some (.int x22)], [(.int x22)])) (w1 := w) rfl rfl ?_
            refine s_if 213 203 rfl rfl rfl (fun (h29 : x22.toInt = 0) => ?_) (fun (h29 : ¬ (x22.toInt = 0)) => ?_)
            · --
              refine aw_step (f1 := (214, [some (.ref 65), some (.int wh), some (.int c), some (.int l), some (.int c), some (.int x22)], [(.int l)])) (w1 := w) rfl rfl ?_
              refine aw_step (f1 := (215, [some (.ref 65), some (.int wh), some (.int c), some (.int l), some (.int c), some (.int x22)], [])) (w1 := w) rfl rfl ?_
              refine aw_step (f1 := (218, [some (.ref 65), some (.int wh), some (.int c), some (.int l), some (.int (c + Int32.ofInt 1)), some (.int x22)], [])) (w1 := w) rfl rfl ?_
              obtain ⟨x30, x30e⟩ : ∃ z, z = (c + Int32.ofInt 1) := ⟨_, rfl⟩
              have x30t : x30.toInt = c.toInt + (1) := by rw [x30e]; exact n_add (y := Int32.ofInt (1)) (by show _ ≤ _ + (1 : Int); omega) (by show _ + (1 : Int) ≤ _; omega)
              rw [← x30e]
              refine aw_step (f1 := (150, [some (.ref 65), some (.int wh), some (.int c), some (.int l), some (.int x30), some (.int x22)], [])) (w1 := w) rfl rfl ?_
              refine ih c l x30 _ (by omega) (by omega) (by omega) ?_
              rw [show x30.toInt = c.toInt + 1 by omega]
              have h5 := rI_83 J.1 (j := c.toInt.toNat) (by omega)
              have hse := hs c.toInt.toNat (by omega)
              have hla := R.rc (i := c.toInt.toNat) (by omega)
              exact F.st (by omega) (by omega) (by omega)
            · --
              refine aw_step (f1 := (204, [some (.ref 65), some (.int wh), some (.int c), some (.int l), some (.int c), some (.int x22)], [(.ref 65)])) (w1 := w) rfl rfl ?_
              refine s_gr 83 J 207 rfl rfl rfl rfl rfl rfl ?_
              refine aw_step (f1 := (209, [some (.ref 65), some (.int wh), some (.int c), some (.int l), some (.int c), some (.int x22)], [(.int c), (.ref 83)])) (w1 := w) rfl rfl ?_
              refine s_ia J 210 rfl rfl rfl rfl (by omega) (by omega) fun x31 x31a x31b x31f => ?_
              have x31v : x31.toInt = rI w 83 c.toInt.toNat := by rw [← rI_of x31f]
              refine aw_step (f1 := (214, [some (.ref 65), some (.int wh), some (.int c), some (.int l), some (.int c), some (.int x22)], [(.int x31)])) (w1 := w) rfl rfl ?_
              refine aw_step (f1 := (215, [some (.ref 65), some (.int wh), some (.int c), some (.int x31), some (.int c), some (.int x22)], [])) (w1 := w) rfl rfl ?_
              refine aw_step (f1 := (218, [some (.ref 65), some (.int wh), some (.int c), some (.int x31), some (.int (c + Int32.ofInt 1)), some (.int x22)], [])) (w1 := w) rfl rfl ?_
              obtain ⟨x32, x32e⟩ : ∃ z, z = (c + Int32.ofInt 1) := ⟨_, rfl⟩
              have x32t : x32.toInt = c.toInt + (1) := by rw [x32e]; exact n_add (y := Int32.ofInt (1)) (by show _ ≤ _ + (1 : Int); omega) (by show _ + (1 : Int) ≤ _; omega)
              rw [← x32e]
              refine aw_step (f1 := (150, [some (.ref 65), some (.int wh), some (.int c), some (.int x31), some (.int x32), some (.int x22)], [])) (w1 := w) rfl rfl ?_
              refine ih c x31 x32 _ (by omega) (by omega) (by omega) ?_
              rw [show x32.toInt = c.toInt + 1 by omega]
              have h5 := rI_83 J.1 (j := c.toInt.toNat) (by omega)
              have hse := hs c.toInt.toNat (by omega)
              have hla := R.rc (i := c.toInt.toNat) (by omega)
              exact F.st (by omega) (by omega) (by omega)
        · --
          refine s_i (pc1 := 180) (ls1 := [some (.ref 65), some (.int wh), some (.int z), some (.int l), some (.int c), o5]) (st1 := []) rfl rfl fun x33 e34 => ?_
          have e34t : x33.toInt = 1 := by rw [e34]; rfl
          refine aw_step (f1 := (184, [some (.ref 65), some (.int wh), some (.int z), some (.int l), some (.int c), o5], [(.int x33)])) (w1 := w) rfl rfl ?_
          refine aw_step (f1 := (186, [some (.ref 65), some (.int wh), some (.int z), some (.int l), some (.int c), some (.int x33)], [])) (w1 := w) rfl rfl ?_
          refine aw_step (f1 := (188, [some (.ref 65), some (.int wh), some (.int z), some (.int l), some (.int c), some (.int x33)], [(.int x33)])) (w1 := w) rfl rfl ?_
          refine s_if 196 191 rfl rfl rfl (fun (h35 : x33.toInt = 0) => ?_) (fun (h35 : ¬ (x33.toInt = 0)) => ?_)
          · --
            refine aw_step (f1 := (197, [some (.ref 65), some (.int wh), some (.int z), some (.int l), some (.int c), some (.int x33)], [(.int z)])) (w1 := w) rfl rfl ?_
            refine aw_step (f1 := (198, [some (.ref 65), some (.int wh), some (.int z), some (.int l), some (.int c), some (.int x33)], [])) (w1 := w) rfl rfl ?_
            refine aw_step (f1 := (200, [some (.ref 65), some (.int wh), some (.int z), some (.int l), some (.int c), some (.int x33)], [(.int x33)])) (w1 := w) rfl rfl ?_
            refine s_if 213 203 rfl rfl rfl (fun (h36 : x33.toInt = 0) => ?_) (fun (h36 : ¬ (x33.toInt = 0)) => ?_)
            · --
              refine aw_step (f1 := (214, [some (.ref 65), some (.int wh), some (.int z), some (.int l), some (.int c), some (.int x33)], [(.int l)])) (w1 := w) rfl rfl ?_
              refine aw_step (f1 := (215, [some (.ref 65), some (.int wh), some (.int z), some (.int l), some (.int c), some (.int x33)], [])) (w1 := w) rfl rfl ?_
              refine aw_step (f1 := (218, [some (.ref 65), some (.int wh), some (.int z), some (.int l), some (.int (c + Int32.ofInt 1)), some (.int x33)], [])) (w1 := w) rfl rfl ?_
              obtain ⟨x37, x37e⟩ : ∃ z, z = (c + Int32.ofInt 1) := ⟨_, rfl⟩
              have x37t : x37.toInt = c.toInt + (1) := by rw [x37e]; exact n_add (y := Int32.ofInt (1)) (by show _ ≤ _ + (1 : Int); omega) (by show _ + (1 : Int) ≤ _; omega)
              rw [← x37e]
              refine aw_step (f1 := (150, [some (.ref 65), some (.int wh), some (.int z), some (.int l), some (.int x37), some (.int x33)], [])) (w1 := w) rfl rfl ?_
              refine ih z l x37 _ (by omega) (by omega) (by omega) ?_
              rw [show x37.toInt = c.toInt + 1 by omega]
              have h5 := rI_83 J.1 (j := c.toInt.toNat) (by omega)
              have hse := hs c.toInt.toNat (by omega)
              have hla := R.rc (i := c.toInt.toNat) (by omega)
              exact F.st (by omega) (by omega) (by omega)
            · --
              refine aw_step (f1 := (204, [some (.ref 65), some (.int wh), some (.int z), some (.int l), some (.int c), some (.int x33)], [(.ref 65)])) (w1 := w) rfl rfl ?_
              refine s_gr 83 J 207 rfl rfl rfl rfl rfl rfl ?_
              refine aw_step (f1 := (209, [some (.ref 65), some (.int wh), some (.int z), some (.int l), some (.int c), some (.int x33)], [(.int c), (.ref 83)])) (w1 := w) rfl rfl ?_
              refine s_ia J 210 rfl rfl rfl rfl (by omega) (by omega) fun x38 x38a x38b x38f => ?_
              have x38v : x38.toInt = rI w 83 c.toInt.toNat := by rw [← rI_of x38f]
              refine aw_step (f1 := (214, [some (.ref 65), some (.int wh), some (.int z), some (.int l), some (.int c), some (.int x33)], [(.int x38)])) (w1 := w) rfl rfl ?_
              refine aw_step (f1 := (215, [some (.ref 65), some (.int wh), some (.int z), some (.int x38), some (.int c), some (.int x33)], [])) (w1 := w) rfl rfl ?_
              refine aw_step (f1 := (218, [some (.ref 65), some (.int wh), some (.int z), some (.int x38), some (.int (c + Int32.ofInt 1)), some (.int x33)], [])) (w1 := w) rfl rfl ?_
              obtain ⟨x39, x39e⟩ : ∃ z, z = (c + Int32.ofInt 1) := ⟨_, rfl⟩
              have x39t : x39.toInt = c.toInt + (1) := by rw [x39e]; exact n_add (y := Int32.ofInt (1)) (by show _ ≤ _ + (1 : Int); omega) (by show _ + (1 : Int) ≤ _; omega)
              rw [← x39e]
              refine aw_step (f1 := (150, [some (.ref 65), some (.int wh), some (.int z), some (.int x38), some (.int x39), some (.int x33)], [])) (w1 := w) rfl rfl ?_
              refine ih z x38 x39 _ (by omega) (by omega) (by omega) ?_
              rw [show x39.toInt = c.toInt + 1 by omega]
              have h5 := rI_83 J.1 (j := c.toInt.toNat) (by omega)
              have hse := hs c.toInt.toNat (by omega)
              have hla := R.rc (i := c.toInt.toNat) (by omega)
              exact F.st (by omega) (by omega) (by omega)
          · --
            refine aw_step (f1 := (193, [some (.ref 65), some (.int wh), some (.int z), some (.int l), some (.int c), some (.int x33)], [(.int c)])) (w1 := w) rfl rfl ?_
            refine aw_step (f1 := (197, [some (.ref 65), some (.int wh), some (.int z), some (.int l), some (.int c), some (.int x33)], [(.int c)])) (w1 := w) rfl rfl ?_
            refine aw_step (f1 := (198, [some (.ref 65), some (.int wh), some (.int c), some (.int l), some (.int c), some (.int x33)], [])) (w1 := w) rfl rfl ?_
            refine aw_step (f1 := (200, [some (.ref 65), some (.int wh), some (.int c), some (.int l), some (.int c), some (.int x33)], [(.int x33)])) (w1 := w) rfl rfl ?_
            refine s_if 213 203 rfl rfl rfl (fun (h40 : x33.toInt = 0) => ?_) (fun (h40 : ¬ (x33.toInt = 0)) => ?_)
            · --
              refine aw_step (f1 := (214, [some (.ref 65), some (.int wh), some (.int c), some (.int l), some (.int c), some (.int x33)], [(.int l)])) (w1 := w) rfl rfl ?_
              refine aw_step (f1 := (215, [some (.ref 65), some (.int wh), some (.int c), some (.int l), some (.int c), some (.int x33)], [])) (w1 := w) rfl rfl ?_
              refine aw_step (f1 := (218, [some (.ref 65), some (.int wh), some (.int c), some (.int l), some (.int (c + Int32.ofInt 1)), some (.int x33)], [])) (w1 := w) rfl rfl ?_
              obtain ⟨x41, x41e⟩ : ∃ z, z = (c + Int32.ofInt 1) := ⟨_, rfl⟩
              have x41t : x41.toInt = c.toInt + (1) := by rw [x41e]; exact n_add (y := Int32.ofInt (1)) (by show _ ≤ _ + (1 : Int); omega) (by show _ + (1 : Int) ≤ _; omega)
              rw [← x41e]
              refine aw_step (f1 := (150, [some (.ref 65), some (.int wh), some (.int c), some (.int l), some (.int x41), some (.int x33)], [])) (w1 := w) rfl rfl ?_
              refine ih c l x41 _ (by omega) (by omega) (by omega) ?_
              rw [show x41.toInt = c.toInt + 1 by omega]
              have h5 := rI_83 J.1 (j := c.toInt.toNat) (by omega)
              have hse := hs c.toInt.toNat (by omega)
              have hla := R.rc (i := c.toInt.toNat) (by omega)
              exact F.st (by omega) (by omega) (by omega)
            · --
              refine aw_step (f1 := (204, [some (.ref 65), some (.int wh), some (.int c), some (.int l), some (.int c), some (.int x33)], [(.ref 65)])) (w1 := w) rfl rfl ?_
              refine s_gr 83 J 207 rfl rfl rfl rfl rfl rfl ?_
              refine aw_step (f1 := (209, [some (.ref 65), some (.int wh), some (.int c), some (.int l), some (.int c), some (.int x33)], [(.int c), (.ref 83)])) (w1 := w) rfl rfl ?_
              refine s_ia J 210 rfl rfl rfl rfl (by omega) (by omega) fun x42 x42a x42b x42f => ?_
              have x42v : x42.toInt = rI w 83 c.toInt.toNat := by rw [← rI_of x42f]
              refine aw_step (f1 := (214, [some (.ref 65), some (.int wh), some (.int c), some (.int l), some (.int c), some (.int x33)], [(.int x42)])) (w1 := w) rfl rfl ?_
              refine aw_step (f1 := (215, [some (.ref 65), some (.int wh), some (.int c), some (.int x42), some (.int c), some (.int x33)], [])) (w1 := w) rfl rfl ?_
              refine aw_step (f1 := (218, [some (.ref 65), some (.int wh), some (.int c), some (.int x42), some (.int (c + Int32.ofInt 1)), some (.int x33)], [])) (w1 := w) rfl rfl ?_
              obtain ⟨x43, x43e⟩ : ∃ z, z = (c + Int32.ofInt 1) := ⟨_, rfl⟩
              have x43t : x43.toInt = c.toInt + (1) := by rw [x43e]; exact n_add (y := Int32.ofInt (1)) (by show _ ≤ _ + (1 : Int); omega) (by show _ + (1 : Int) ≤ _; omega)
              rw [← x43e]
              refine aw_step (f1 := (150, [some (.ref 65), some (.int wh), some (.int c), some (.int x42), some (.int x43), some (.int x33)], [])) (w1 := w) rfl rfl ?_
              refine ih c x42 x43 _ (by omega) (by omega) (by omega) ?_
              rw [show x43.toInt = c.toInt + 1 by omega]
              have h5 := rI_83 J.1 (j := c.toInt.toNat) (by omega)
              have hse := hs c.toInt.toNat (by omega)
              have hla := R.rc (i := c.toInt.toNat) (by omega)
              exact F.st (by omega) (by omega) (by omega)
theorem f_mtC {d : Nat} {Q : Option Value → am_W → Prop} {w00 wb : am_W} (wh p : Int32) (o4 o5 : Option Value) (K : ∀ (w : am_W) (c : Int32), ab_J ab_TT ab_sets ab_WR w00 w → only [83] wb w → (∀ j : Nat, (j : Int) < szM wb → rI w 83 j = if rI wb 83 j < rI wb 77 j then rI wb 77 j else rI wb 83 j) → aw none (d + 1) 159 Q (135, [some (.ref 65), some (.int wh), some (.int p), some (.int c), o4, o5], []) w) (I0 : ab_inv ab_TT ab_sets wb) : ∀ (m : Nat) (w : am_W) (c : Int32), (szM wb - c.toInt).toNat < m → 0 ≤ c.toInt → c.toInt ≤ szM wb → ab_J ab_TT ab_sets ab_WR w00 w → only [83] wb w → (∀ j : Nat, (j : Int) < c.toInt → rI w 83 j = if rI wb 83 j < rI wb 77 j then rI wb 77 j else rI wb 83 j) → (∀ j : Nat, c.toInt ≤ (j : Int) → rI w 83 j = rI wb 83 j) → aw none (d + 1) 159 Q (85, [some (.ref 65), some (.int wh), some (.int p), some (.int c), o4, o5], []) w := by
  have szm := szM_in I0
  intro m
  induction m with
  | zero => intro w c p; omega
  | succ m ih =>
    intro w c p1 p2 p3 J O F G
    have hs : szM w = szM wb := O.sz (by decide)
    refine aw_step (f1 := (86, [some (.ref 65), some (.int wh), some (.int p), some (.int c), o4, o5], [(.int c)])) (w1 := w) rfl rfl ?_
    refine aw_step (f1 := (87, [some (.ref 65), some (.int wh), some (.int p), some (.int c), o4, o5], [(.ref 65), (.int c)])) (w1 := w) rfl rfl ?_
    refine s_cv (z := 113) (p := 65) (as := []) (st1 := [(.int c)]) J 90 rfl rfl rfl rfl rfl rfl rfl rfl (Nat.le_of_ble_eq_true rfl) (Nat.le_of_ble_eq_true rfl) (q_cells J.1) ?_
    rintro _ _ ⟨rfl, x1, rfl, x1t⟩
    refine ⟨rfl, ?_⟩
    show aw none _ 159 _ (90, [some (.ref 65), some (.int wh), some (.int p), some (.int c), o4, o5], [(.int x1), (.int c)]) w
    have x1s := szM_in J.1
    refine s_ic 135 93 rfl rfl rfl (fun (h2 : x1.toInt ≤ c.toInt) => ?_) (fun (h2 : ¬ (x1.toInt ≤ c.toInt)) => ?_)
    · --
      exact K w c J O (fun j hj => F j (by omega))
    · --
      refine aw_step (f1 := (94, [some (.ref 65), some (.int wh), some (.int p), some (.int c), o4, o5], [(.ref 65)])) (w1 := w) rfl rfl ?_
      refine s_gr 83 J 97 rfl rfl rfl rfl rfl rfl ?_
      refine aw_step (f1 := (98, [some (.ref 65), some (.int wh), some (.int p), some (.int c), o4, o5], [(.int c), (.ref 83)])) (w1 := w) rfl rfl ?_
      refine aw_step (f1 := (99, [some (.ref 65), some (.int wh), some (.int p), some (.int c), o4, o5], [(.ref 65), (.int c), (.ref 83)])) (w1 := w) rfl rfl ?_
      refine s_gr 77 J 102 rfl rfl rfl rfl rfl rfl ?_
      refine aw_step (f1 := (103, [some (.ref 65), some (.int wh), some (.int p), some (.int c), o4, o5], [(.int c), (.ref 77), (.int c), (.ref 83)])) (w1 := w) rfl rfl ?_
      refine s_ia J 104 rfl rfl rfl rfl (by omega) (by omega) fun x3 x3a x3b x3f => ?_
      have x3v : x3.toInt = rI w 77 c.toInt.toNat := by rw [← rI_of x3f]
      refine aw_step (f1 := (105, [some (.ref 65), some (.int wh), some (.int p), some (.int c), o4, o5], [(.ref 65), (.int x3), (.int c), (.ref 83)])) (w1 := w) rfl rfl ?_
      refine s_gr 83 J 108 rfl rfl rfl rfl rfl rfl ?_
      refine aw_step (f1 := (109, [some (.ref 65), some (.int wh), some (.int p), some (.int c), o4, o5], [(.int c), (.ref 83), (.int x3), (.int c), (.ref 83)])) (w1 := w) rfl rfl ?_
      refine s_ia J 110 rfl rfl rfl rfl (by omega) (by omega) fun x4 x4a x4b x4f => ?_
      have x4v : x4.toInt = rI w 83 c.toInt.toNat := by rw [← rI_of x4f]
      refine s_ic 122 113 rfl rfl rfl (fun (h5 : x3.toInt ≤ x4.toInt) => ?_) (fun (h5 : ¬ (x3.toInt ≤ x4.toInt)) => ?_)
      · --
        refine aw_step (f1 := (123, [some (.ref 65), some (.int wh), some (.int p), some (.int c), o4, o5], [(.ref 65), (.int c), (.ref 83)])) (w1 := w) rfl rfl ?_
        refine s_gr 83 J 126 rfl rfl rfl rfl rfl rfl ?_
        refine aw_step (f1 := (127, [some (.ref 65), some (.int wh), some (.int p), some (.int c), o4, o5], [(.int c), (.ref 83), (.int c), (.ref 83)])) (w1 := w) rfl rfl ?_
        refine s_ia J 128 rfl rfl rfl rfl (by omega) (by omega) fun x6 x6a x6b x6f => ?_
        have x6v : x6.toInt = rI w 83 c.toInt.toNat := by rw [← rI_of x6f]
        refine s_is J 129 rfl rfl rfl rfl (by omega) (by omega) (by omega) (by omega) fun w7 J8 w7e => ?_
        have w7f := rI_st J.1 (p := 83) (j := c.toInt.toNat) rfl (by omega) w7e
        refine aw_step (f1 := (132, [some (.ref 65), some (.int wh), some (.int p), some (.int (c + Int32.ofInt 1)), o4, o5], [])) (w1 := w7) rfl rfl ?_
        obtain ⟨x9, x9e⟩ : ∃ z, z = (c + Int32.ofInt 1) := ⟨_, rfl⟩
        have x9t : x9.toInt = c.toInt + (1) := by rw [x9e]; exact n_add (y := Int32.ofInt (1)) (by show _ ≤ _ + (1 : Int); omega) (by show _ + (1 : Int) ≤ _; omega)
        rw [← x9e]
        refine aw_step (f1 := (85, [some (.ref 65), some (.int wh), some (.int p), some (.int x9), o4, o5], [])) (w1 := w7) rfl rfl ?_
        refine ih w7 x9 (by omega) (by omega) (by omega) J8 (O.trans w7f.1) (fun j hj => ?_) (fun j hj => ?_)
        · by_cases q : j = c.toInt.toNat
          · rw [q, w7f.2.1, ← G c.toInt.toNat (by omega), ← O.rIe (p := 77) (by decide)]
            first
              | (rw [if_pos (by omega)]; omega)
              | (rw [if_neg (by omega)]; omega)
          · rw [w7f.2.2 j q]; exact F j (by omega)
        · rw [w7f.2.2 j (by omega)]; exact G j (by omega)
      · --
        refine aw_step (f1 := (114, [some (.ref 65), some (.int wh), some (.int p), some (.int c), o4, o5], [(.ref 65), (.int c), (.ref 83)])) (w1 := w) rfl rfl ?_
        refine s_gr 77 J 117 rfl rfl rfl rfl rfl rfl ?_
        refine aw_step (f1 := (118, [some (.ref 65), some (.int wh), some (.int p), some (.int c), o4, o5], [(.int c), (.ref 77), (.int c), (.ref 83)])) (w1 := w) rfl rfl ?_
        refine s_ia J 119 rfl rfl rfl rfl (by omega) (by omega) fun x10 x10a x10b x10f => ?_
        have x10v : x10.toInt = rI w 77 c.toInt.toNat := by rw [← rI_of x10f]
        refine aw_step (f1 := (128, [some (.ref 65), some (.int wh), some (.int p), some (.int c), o4, o5], [(.int x10), (.int c), (.ref 83)])) (w1 := w) rfl rfl ?_
        refine s_is J 129 rfl rfl rfl rfl (by omega) (by omega) (by omega) (by omega) fun w11 J12 w11e => ?_
        have w11f := rI_st J.1 (p := 83) (j := c.toInt.toNat) rfl (by omega) w11e
        refine aw_step (f1 := (132, [some (.ref 65), some (.int wh), some (.int p), some (.int (c + Int32.ofInt 1)), o4, o5], [])) (w1 := w11) rfl rfl ?_
        obtain ⟨x13, x13e⟩ : ∃ z, z = (c + Int32.ofInt 1) := ⟨_, rfl⟩
        have x13t : x13.toInt = c.toInt + (1) := by rw [x13e]; exact n_add (y := Int32.ofInt (1)) (by show _ ≤ _ + (1 : Int); omega) (by show _ + (1 : Int) ≤ _; omega)
        rw [← x13e]
        refine aw_step (f1 := (85, [some (.ref 65), some (.int wh), some (.int p), some (.int x13), o4, o5], [])) (w1 := w11) rfl rfl ?_
        refine ih w11 x13 (by omega) (by omega) (by omega) J12 (O.trans w11f.1) (fun j hj => ?_) (fun j hj => ?_)
        · by_cases q : j = c.toInt.toNat
          · rw [q, w11f.2.1, ← G c.toInt.toNat (by omega), ← O.rIe (p := 77) (by decide)]
            first
              | (rw [if_pos (by omega)]; omega)
              | (rw [if_neg (by omega)]; omega)
          · rw [w11f.2.2 j q]; exact F j (by omega)
        · rw [w11f.2.2 j (by omega)]; exact G j (by omega)
theorem f_mtP {d : Nat} {w00 : am_W} {V : Nat → Int} (R00 : RMs w00 V) (hv6 : 0 ≤ V 6 ∧ V 6 ≤ 15) (h0 : V 6 ≠ 0) (hp : ∀ p : Nat, p < 4 → bt (V 6).toNat p = 1 → 0 ≤ V (8 + 4 * p + 2) ∧ V (8 + 4 * p + 2) < szV V ∧ V (40 + (V (8 + 4 * p + 2)).toNat) ≠ 126) (wh : Int32) (hwh : 0 ≤ wh.toInt ∧ wh.toInt ≤ 1) (I0 : ab_inv ab_TT ab_sets w00) : ∀ (m : Nat) (w : am_W) (p : Int32) (o3 o4 o5 : Option Value), (4 - p.toInt).toNat < m → 0 ≤ p.toInt → p.toInt ≤ 4 → ab_J ab_TT ab_sets ab_WR w00 w → only ow4 w00 w → (∀ j : Nat, (j : Int) < szV V → mxV V p.toInt.toNat j (nn (rI w 83 j))) → aw none (d + 6) 159 (fun r w1 => ab_J ab_TT ab_sets ab_WR w00 w1 ∧ ∃ z : Int32, r = some (.int z) ∧ metP V wh.toInt z.toInt) (46, [some (.ref 65), some (.int wh), some (.int p), o3, o4, o5], []) w := by
  have szm0 := szM_in I0
  have hsz0 := R00.sz
  intro m
  induction m with
  | zero => intro w p o3 o4 o5 q; omega
  | succ m ih =>
    intro w p o3 o4 o5 p1 p2 p3 J O M
    have R := R00.wr I0 J
    have hsz := R.sz
    have szm := szM_in J.1
    have r6 := R.f6
    refine aw_step (f1 := (47, [some (.ref 65), some (.int wh), some (.int p), o3, o4, o5], [(.int p)])) (w1 := w) rfl rfl ?_
    refine s_i (pc1 := 48) (ls1 := [some (.ref 65), some (.int wh), some (.int p), o3, o4, o5]) (st1 := [(.int p)]) rfl rfl fun x1 e2 => ?_
    have e2t : x1.toInt = 4 := by rw [e2]; rfl
    refine s_ic 141 51 rfl rfl rfl (fun (h3 : x1.toInt ≤ p.toInt) => ?_) (fun (h3 : ¬ (x1.toInt ≤ p.toInt)) => ?_)
    · --
      refine s_i (pc1 := 143) (ls1 := [some (.ref 65), some (.int wh), some (.int p), o3, o4, o5]) (st1 := []) rfl rfl fun x4 e5 => ?_
      have e5t : x4.toInt = -6 := by rw [e5]; rfl
      refine aw_step (f1 := (144, [some (.ref 65), some (.int wh), some (.int x4), o3, o4, o5], [])) (w1 := w) rfl rfl ?_
      refine s_i (pc1 := 146) (ls1 := [some (.ref 65), some (.int wh), some (.int x4), o3, o4, o5]) (st1 := []) rfl rfl fun x6 e7 => ?_
      have e7t : x6.toInt = 100000 := by rw [e7]; rfl
      refine aw_step (f1 := (147, [some (.ref 65), some (.int wh), some (.int x4), some (.int x6), o4, o5], [])) (w1 := w) rfl rfl ?_
      refine s_i (pc1 := 148) (ls1 := [some (.ref 65), some (.int wh), some (.int x4), some (.int x6), o4, o5]) (st1 := []) rfl rfl fun x8 e9 => ?_
      have e9t : x8.toInt = 0 := by rw [e9]; rfl
      refine aw_step (f1 := (150, [some (.ref 65), some (.int wh), some (.int x4), some (.int x6), some (.int x8), o5], [])) (w1 := w) rfl rfl ?_
      rw [show p.toInt.toNat = 4 by omega] at M
      refine f_mtF R wh hwh ⟨J.1, ab_fr.rf⟩ M (fun j hj hs => ?_) (fun z hz => ⟨J, z, rfl, Or.inr (Or.inr ⟨hwh, h0, hz⟩)⟩) 37 x4 x6 x8 _ (by omega) (by omega) (by omega) (by rw [show x8.toInt = 0 by omega]; exact Or.inl ⟨by omega, by omega, fun j hj => by omega⟩)
      obtain ⟨q, q1, q2⟩ := ppl hv6 h0
      have a := mxV_sea hp hs q2 (by omega) q1 (M j hj)
      have b := rI_83 J.1 (j := j) (by omega)
      apply Classical.byContradiction
      intro u
      rw [nn_n u] at a
      omega
    · --
      refine aw_step (f1 := (52, [some (.ref 65), some (.int wh), some (.int p), o3, o4, o5], [(.ref 65)])) (w1 := w) rfl rfl ?_
      refine s_gi J 55 rfl rfl rfl rfl rfl rfl fun x10 x10a x10b x10f => ?_
      have x10v : x10.toInt = fI w 65 9 := by rw [← fI_of x10f]
      refine aw_step (f1 := (56, [some (.ref 65), some (.int wh), some (.int p), o3, o4, o5], [(.int p), (.int x10)])) (w1 := w) rfl rfl ?_
      --
      refine s_i (pc1 := 57) (ls1 := [some (.ref 65), some (.int wh), some (.int p), o3, o4, o5]) (st1 := []) rfl rfl fun x11 e12 => ?_
      have e12 : x11 = x10 >>> (p &&& 31) := e12
      --
      refine s_i (pc1 := 58) (ls1 := [some (.ref 65), some (.int wh), some (.int p), o3, o4, o5]) (st1 := [(.int x11)]) rfl rfl fun x13 e14 => ?_
      have e14t : x13.toInt = 1 := by rw [e14]; rfl
      --
      refine s_i (pc1 := 59) (ls1 := [some (.ref 65), some (.int wh), some (.int p), o3, o4, o5]) (st1 := []) rfl rfl fun x15 e16 => ?_
      have e16 : x15 = x11 &&& x13 := e16
      have hb : x15.toInt = bt (V 6).toNat p.toInt.toNat := by
        have hq := (i_po (x := x10) (p := p) (by omega) (by omega) (by omega) (by omega)).2.2.1
        rw [show V 6 = x10.toInt by omega, ← hq, e16, e12, show x13 = 1 from n_1 (by omega)]
      have hle := bt_le (V 6).toNat p.toInt.toNat
      refine s_i (pc1 := 60) (ls1 := [some (.ref 65), some (.int wh), some (.int p), o3, o4, o5]) (st1 := [(.int x15)]) rfl rfl fun x17 e18 => ?_
      have e18t : x17.toInt = 1 := by rw [e18]; rfl
      refine s_ic 135 63 rfl rfl rfl (fun (h19 : ¬ x15.toInt = x17.toInt) => ?_) (fun (h19 : ¬ (¬ x15.toInt = x17.toInt)) => ?_)
      · --
        refine aw_step (f1 := (138, [some (.ref 65), some (.int wh), some (.int (p + Int32.ofInt 1)), o3, o4, o5], [])) (w1 := w) rfl rfl ?_
        obtain ⟨x20, x20e⟩ : ∃ z, z = (p + Int32.ofInt 1) := ⟨_, rfl⟩
        have x20t : x20.toInt = p.toInt + (1) := by rw [x20e]; exact n_add (y := Int32.ofInt (1)) (by show _ ≤ _ + (1 : Int); omega) (by show _ + (1 : Int) ≤ _; omega)
        rw [← x20e]
        refine aw_step (f1 := (46, [some (.ref 65), some (.int wh), some (.int x20), o3, o4, o5], [])) (w1 := w) rfl rfl ?_
        refine ih w x20 _ _ _ (by omega) (by omega) (by omega) J O (fun j hj => ?_)
        rw [show x20.toInt.toNat = p.toInt.toNat + 1 by omega]
        exact ⟨_, M j hj, Or.inl ⟨by omega, rfl⟩⟩
      · --
        refine aw_step (f1 := (64, [some (.ref 65), some (.int wh), some (.int p), o3, o4, o5], [(.ref 65)])) (w1 := w) rfl rfl ?_
        refine aw_step (f1 := (65, [some (.ref 65), some (.int wh), some (.int p), o3, o4, o5], [(.ref 65), (.ref 65)])) (w1 := w) rfl rfl ?_
        refine s_gr 70 J 68 rfl rfl rfl rfl rfl rfl ?_
        refine aw_step (f1 := (69, [some (.ref 65), some (.int wh), some (.int p), o3, o4, o5], [(.int p), (.ref 70), (.ref 65)])) (w1 := w) rfl rfl ?_
        refine s_ia J 70 rfl rfl rfl rfl (by omega) (by omega) fun x21 x21a x21b x21f => ?_
        have x21v : x21.toInt = rI w 70 p.toInt.toNat := by rw [← rI_of x21f]
        have hb3 : x21.toInt = V (8 + 4 * p.toInt.toNat + 3) := by rw [x21v]; exact R.ra (i := p.toInt.toNat) (c := 3) (by omega) (by decide)
        have pc := hp p.toInt.toNat (by omega) (by omega)
        refine s_cv (z := 133) (p := 65) (as := [(.int x21)]) (st1 := []) J 73 rfl rfl rfl rfl rfl rfl rfl rfl (Nat.le_of_ble_eq_true rfl) (Nat.le_of_ble_eq_true rfl) (q_putOn x21 ⟨by omega, by omega⟩ J.1) ?_
        rintro _ w22 ⟨rfl, J23c, w22o, w22p⟩
        have J23 := J.trans J23c
        refine ⟨am_len2 J J23c, ?_⟩
        show aw none _ 159 _ (73, [some (.ref 65), some (.int wh), some (.int p), o3, o4, o5], []) w22
        refine aw_step (f1 := (74, [some (.ref 65), some (.int wh), some (.int p), o3, o4, o5], [(.ref 65)])) (w1 := w22) rfl rfl ?_
        refine aw_step (f1 := (75, [some (.ref 65), some (.int wh), some (.int p), o3, o4, o5], [(.ref 65), (.ref 65)])) (w1 := w22) rfl rfl ?_
        refine s_gr 69 J23 78 rfl rfl rfl rfl rfl rfl ?_
        refine aw_step (f1 := (79, [some (.ref 65), some (.int wh), some (.int p), o3, o4, o5], [(.int p), (.ref 69), (.ref 65)])) (w1 := w22) rfl rfl ?_
        refine s_ia J23 80 rfl rfl rfl rfl (by omega) (by omega) fun x24 x24a x24b x24f => ?_
        have x24v : x24.toInt = rI w 69 p.toInt.toNat := by rw [← rI_of x24f, w22o.rIe (by decide)]
        have hc : x24.toInt = V (8 + 4 * p.toInt.toNat + 2) := by rw [x24v]; exact R.ra (i := p.toInt.toNat) (c := 2) (by omega) (by decide)
        refine s_cv (z := 142) (p := 65) (as := [(.int x24)]) (st1 := []) J23 83 rfl rfl rfl rfl rfl rfl rfl rfl (Nat.le_of_ble_eq_true rfl) (Nat.le_of_ble_eq_true rfl) (q_findFar x24 ⟨by omega, by omega⟩ J23.1) ?_
        rintro _ w25 ⟨rfl, J26c, w25o, w25p⟩
        have J26 := J23.trans J26c
        refine ⟨am_len2 J23 J26c, ?_⟩
        show aw none _ 159 _ (83, [some (.ref 65), some (.int wh), some (.int p), o3, o4, o5], []) w25
        refine s_i (pc1 := 84) (ls1 := [some (.ref 65), some (.int wh), some (.int p), o3, o4, o5]) (st1 := []) rfl rfl fun x27 e28 => ?_
        have e28t : x27.toInt = 0 := by rw [e28]; rfl
        refine aw_step (f1 := (85, [some (.ref 65), some (.int wh), some (.int p), some (.int x27), o4, o5], [])) (w1 := w25) rfl rfl ?_
        have O1 := w22o
        have O2 := w25o
        have z1 : szM w22 = szV V := by rw [← hsz]; exact O1.sz (by decide)
        have z2 : szM w25 = szV V := by rw [← z1]; exact O2.sz (by decide)
        have l67 : rI w 67 x21.toInt.toNat = V (8 + 4 * (V (8 + 4 * p.toInt.toNat + 3)).toNat + 0) := by rw [← hb3]; exact R.ra (i := x21.toInt.toNat) (c := 0) (by omega) (by decide)
        have lr := rowM_V R (by omega) w22p
        rw [l67] at lr
        have fp := w25p
        rw [z1, hc] at fp
        have dm := fPost_V (by omega) ⟨by omega, pc.2.2⟩ lr fp
        have hr : ∀ j : Nat, j < 36 → rI w25 77 j = 100000 ∨ (0 ≤ rI w25 77 j ∧ rI w25 77 j < 36) := fun j hj => by have := fp.1 j hj; omega
        refine f_mtC (wb := w25) wh p o4 o5 (fun w9 c9 J9 O9 F9 => ?_) J26.1 37 w25 x27 (by omega) (by omega) (by omega) J26 only.rf (fun j hj => by omega) (fun j _ => rfl)
        refine aw_step (f1 := (138, [some (.ref 65), some (.int wh), some (.int (p + Int32.ofInt 1)), some (.int c9), o4, o5], [])) (w1 := w9) rfl rfl ?_
        obtain ⟨zx1, zx1e⟩ : ∃ z, z = (p + Int32.ofInt 1) := ⟨_, rfl⟩
        have zx1t : zx1.toInt = p.toInt + (1) := by rw [zx1e]; exact n_add (y := Int32.ofInt (1)) (by show _ ≤ _ + (1 : Int); omega) (by show _ + (1 : Int) ≤ _; omega)
        rw [← zx1e]
        refine aw_step (f1 := (46, [some (.ref 65), some (.int wh), some (.int zx1), some (.int c9), o4, o5], [])) (w1 := w9) rfl rfl ?_
        refine ih w9 zx1 _ _ _ (by omega) (by omega) (by omega) J9 (((O.trans (o74 O1)).trans (o77 O2)).trans (o83 O9)) (fun j hj => ?_)
        rw [show zx1.toInt.toNat = p.toInt.toNat + 1 by omega]
        refine ⟨_, M j hj, Or.inr ⟨by omega, _, ds_dm dm hr (by omega), ?_⟩⟩
        have e83 : rI w25 83 j = rI w 83 j := by rw [O2.rIe (by decide), O1.rIe (by decide)]
        have hr9 := hr j (by omega)
        rw [nn_mx (a := rI w 83 j) (b := rI w25 77 j) (rI_83 J.1 (by omega)) (by omega) (by rw [F9 j (by omega), e83])]
theorem f_mtZ {d : Nat} {w00 : am_W} {V : Nat → Int} (R00 : RMs w00 V) (hv6 : 0 ≤ V 6 ∧ V 6 ≤ 15) (h0 : V 6 ≠ 0) (hp : ∀ p : Nat, p < 4 → bt (V 6).toNat p = 1 → 0 ≤ V (8 + 4 * p + 2) ∧ V (8 + 4 * p + 2) < szV V ∧ V (40 + (V (8 + 4 * p + 2)).toNat) ≠ 126) (wh : Int32) (hwh : 0 ≤ wh.toInt ∧ wh.toInt ≤ 1) (I0 : ab_inv ab_TT ab_sets w00) : ∀ (m : Nat) (w : am_W) (c : Int32), (36 - c.toInt).toNat < m → 0 ≤ c.toInt → c.toInt ≤ 36 → ab_J ab_TT ab_sets ab_WR w00 w → only [83] w00 w → (∀ j : Nat, (j : Int) < c.toInt → rI w 83 j = 0) → aw none (d + 6) 159 (fun r w1 => ab_J ab_TT ab_sets ab_WR w00 w1 ∧ ∃ z : Int32, r = some (.int z) ∧ metP V wh.toInt z.toInt) (25, [some (.ref 65), some (.int wh), some (.int c), none, none, none], []) w := by
  have szm0 := szM_in I0
  have hsz0 := R00.sz
  intro m
  induction m with
  | zero => intro w c q; omega
  | succ m ih =>
    intro w c p1 p2 p3 J O F
    refine aw_step (f1 := (26, [some (.ref 65), some (.int wh), some (.int c), none, none, none], [(.int c)])) (w1 := w) rfl rfl ?_
    refine s_i (pc1 := 28) (ls1 := [some (.ref 65), some (.int wh), some (.int c), none, none, none]) (st1 := [(.int c)]) rfl rfl fun x1 e2 => ?_
    have e2t : x1.toInt = 36 := by rw [e2]; rfl
    refine s_ic 44 31 rfl rfl rfl (fun (h3 : x1.toInt ≤ c.toInt) => ?_) (fun (h3 : ¬ (x1.toInt ≤ c.toInt)) => ?_)
    · --
      refine s_i (pc1 := 45) (ls1 := [some (.ref 65), some (.int wh), some (.int c), none, none, none]) (st1 := []) rfl rfl fun x4 e5 => ?_
      have e5t : x4.toInt = 0 := by rw [e5]; rfl
      refine aw_step (f1 := (46, [some (.ref 65), some (.int wh), some (.int x4), none, none, none], [])) (w1 := w) rfl rfl ?_
      exact f_mtP R00 hv6 h0 hp wh hwh I0 5 w x4 _ _ _ (by omega) (by omega) (by omega) J (o83 O) (fun j hj => by rw [show x4.toInt.toNat = 0 by omega]; show _ = (0 : Int); rw [F j (by omega), nn_n (by decide)])
    · --
      refine aw_step (f1 := (32, [some (.ref 65), some (.int wh), some (.int c), none, none, none], [(.ref 65)])) (w1 := w) rfl rfl ?_
      refine s_gr 83 J 35 rfl rfl rfl rfl rfl rfl ?_
      refine aw_step (f1 := (36, [some (.ref 65), some (.int wh), some (.int c), none, none, none], [(.int c), (.ref 83)])) (w1 := w) rfl rfl ?_
      refine s_i (pc1 := 37) (ls1 := [some (.ref 65), some (.int wh), some (.int c), none, none, none]) (st1 := [(.int c), (.ref 83)]) rfl rfl fun x6 e7 => ?_
      have e7t : x6.toInt = 0 := by rw [e7]; rfl
      refine s_is J 38 rfl rfl rfl rfl (by omega) (by omega) (by omega) (by omega) fun w8 J9 w8e => ?_
      have w8f := rI_st J.1 (p := 83) (j := c.toInt.toNat) rfl (by omega) w8e
      refine aw_step (f1 := (41, [some (.ref 65), some (.int wh), some (.int (c + Int32.ofInt 1)), none, none, none], [])) (w1 := w8) rfl rfl ?_
      obtain ⟨x10, x10e⟩ : ∃ z, z = (c + Int32.ofInt 1) := ⟨_, rfl⟩
      have x10t : x10.toInt = c.toInt + (1) := by rw [x10e]; exact n_add (y := Int32.ofInt (1)) (by show _ ≤ _ + (1 : Int); omega) (by show _ + (1 : Int) ≤ _; omega)
      rw [← x10e]
      refine aw_step (f1 := (25, [some (.ref 65), some (.int wh), some (.int x10), none, none, none], [])) (w1 := w8) rfl rfl ?_
      refine ih w8 x10 (by omega) (by omega) (by omega) J9 (O.trans w8f.1) (fun j hj => ?_)
      by_cases q : j = c.toInt.toNat
      · rw [q, w8f.2.1]; omega
      · rw [w8f.2.2 j q]; exact F j (by omega)
theorem f_meet {d : Nat} {w : am_W} {V : Nat → Int} (R : RMs w V) (hv6 : 0 ≤ V 6 ∧ V 6 ≤ 15) (hp : ∀ p : Nat, p < 4 → bt (V 6).toNat p = 1 → 0 ≤ V (8 + 4 * p + 2) ∧ V (8 + 4 * p + 2) < szV V ∧ V (40 + (V (8 + 4 * p + 2)).toNat) ≠ 126) (wh : Int32) (I : ab_inv ab_TT ab_sets w) : aw none (d + 6) 159 (fun r w1 => ab_J ab_TT ab_sets ab_WR w w1 ∧ ∃ z : Int32, r = some (.int z) ∧ metP V wh.toInt z.toInt) (0, am_entry 159 [.ref 65, .int wh], []) w := by
  have J : ab_J ab_TT ab_sets ab_WR w w := ⟨I, ab_fr.rf⟩
  have szm := szM_in I
  have hsz := R.sz
  have r6 := R.f6
  show aw none (d + 6) 159 _ (0, [some (.ref 65), some (.int wh), none, none, none, none], []) w
  refine aw_step (f1 := (1, [some (.ref 65), some (.int wh), none, none, none, none], [(.int wh)])) (w1 := w) rfl rfl ?_
  refine s_l (pc1 := 2) (ls1 := [some (.ref 65), some (.int wh), none, none, none, none]) (st1 := []) rfl rfl fun y1 e2 => ?_
  have e2t : y1.toInt = wh.toInt := by rw [e2]; exact Int32.toInt_toInt64 wh
  refine s_l (pc1 := 3) (ls1 := [some (.ref 65), some (.int wh), none, none, none, none]) (st1 := [(.long y1)]) rfl rfl fun y3 e4 => ?_
  have e4t : y3.toInt = 0 := by rw [e4]; rfl
  refine s_l (pc1 := 4) (ls1 := [some (.ref 65), some (.int wh), none, none, none, none]) (st1 := [(.long y3), (.long y1)]) rfl rfl fun y5 e6 => ?_
  have e6t : y5.toInt = 1 := by rw [e6]; rfl
  refine s_cs (z := 108) (as := [(.long y1), (.long y3), (.long y5)]) (st1 := []) 7 rfl rfl rfl rfl rfl rfl (Nat.le_of_ble_eq_true rfl) (Nat.le_of_ble_eq_true rfl) (Nat.le_of_ble_eq_true rfl) (q_in2 y1 y3 y5) ?_
  rintro _ _ ⟨rfl, x7, rfl, x7t⟩
  refine ⟨rfl, ?_⟩
  show aw none _ 159 _ (7, [some (.ref 65), some (.int wh), none, none, none, none], [(.int x7)]) w
  refine s_if 13 10 rfl rfl rfl (fun (h8 : ¬ x7.toInt = 0) => ?_) (fun (h8 : ¬ (¬ x7.toInt = 0)) => ?_)
  · --
    refine aw_step (f1 := (14, [some (.ref 65), some (.int wh), none, none, none, none], [(.ref 65)])) (w1 := w) rfl rfl ?_
    refine s_gi J 17 rfl rfl rfl rfl rfl rfl fun x9 x9a x9b x9f => ?_
    have x9v : x9.toInt = fI w 65 9 := by rw [← fI_of x9f]
    refine s_if 23 20 rfl rfl rfl (fun (h10 : ¬ x9.toInt = 0) => ?_) (fun (h10 : ¬ (¬ x9.toInt = 0)) => ?_)
    · --
      refine s_i (pc1 := 24) (ls1 := [some (.ref 65), some (.int wh), none, none, none, none]) (st1 := []) rfl rfl fun x11 e12 => ?_
      have e12t : x11.toInt = 0 := by rw [e12]; rfl
      refine aw_step (f1 := (25, [some (.ref 65), some (.int wh), some (.int x11), none, none, none], [])) (w1 := w) rfl rfl ?_
      exact f_mtZ R hv6 (by omega) hp wh ⟨by omega, by omega⟩ I 37 w x11 (by omega) (by omega) (by omega) J only.rf (fun j hj => by omega)
    · --
      refine s_i (pc1 := 22) (ls1 := [some (.ref 65), some (.int wh), none, none, none, none]) (st1 := []) rfl rfl fun x13 e14 => ?_
      have e14t : x13.toInt = -3 := by rw [e14]; rfl
      refine aw_ret (v := some (.int x13)) rfl rfl ?_
      first
        | exact ⟨J, x13, rfl, Or.inl ⟨by omega, by omega⟩⟩
        | exact ⟨J, x13, rfl, Or.inr (Or.inl ⟨by omega, ⟨by omega, by omega⟩, by omega⟩)⟩
  · --
    refine s_i (pc1 := 12) (ls1 := [some (.ref 65), some (.int wh), none, none, none, none]) (st1 := []) rfl rfl fun x15 e16 => ?_
    have e16t : x15.toInt = -2 := by rw [e16]; rfl
    refine aw_ret (v := some (.int x15)) rfl rfl ?_
    first
      | exact ⟨J, x15, rfl, Or.inl ⟨by omega, by omega⟩⟩
      | exact ⟨J, x15, rfl, Or.inr (Or.inl ⟨by omega, ⟨by omega, by omega⟩, by omega⟩)⟩
