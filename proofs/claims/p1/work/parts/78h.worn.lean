/-! ===== worn, changed, time ===== -/
noncomputable def wonP (V : Nat → Int) (b f t z : Int) : Prop := (z = -1 ∧ ((b < 0 ∨ 3 < b) ∨ (f < 0 ∨ szV V ≤ f ∨ V (40 + f.toNat) = 126) ∨ (t < 0 ∨ szV V ≤ t ∨ V (40 + t.toNat) = 126))) ∨ (((0 ≤ b ∧ b ≤ 3) ∧ (0 ≤ f ∧ f < szV V ∧ V (40 + f.toNat) ≠ 126) ∧ (0 ≤ t ∧ t < szV V ∧ V (40 + t.toNat) ≠ 126)) ∧ trR (ET V 1 1 0 0 (V (8 + 4 * b.toNat + 0)) 0) f.toNat t.toNat z)
theorem U_worn {V : Nat → Int} {b f t z z2 : Int} (h : wonP V b f t z) (g : wonP V b f t z2) : z2 = z := by
  rcases h with h | ⟨h, h2⟩ <;> rcases g with g | ⟨g, g2⟩
  · omega
  · omega
  · omega
  · exact h2.uniq g2
noncomputable def timP (V : Nat → Int) (b f t z : Int) : Prop := (z = -1 ∧ ((b < 0 ∨ 3 < b) ∨ (f < 0 ∨ szV V ≤ f ∨ V (40 + f.toNat) = 126) ∨ (t < 0 ∨ szV V ≤ t ∨ V (40 + t.toNat) = 126))) ∨ (((0 ≤ b ∧ b ≤ 3) ∧ (0 ≤ f ∧ f < szV V ∧ V (40 + f.toNat) ≠ 126) ∧ (0 ≤ t ∧ t < szV V ∧ V (40 + t.toNat) ≠ 126)) ∧ trR (ET V (V 4) 0 (V 5) 0 (V (8 + 4 * b.toNat + 0)) 0) f.toNat t.toNat z)
theorem U_time {V : Nat → Int} {b f t z z2 : Int} (h : timP V b f t z) (g : timP V b f t z2) : z2 = z := by
  rcases h with h | ⟨h, h2⟩ <;> rcases g with g | ⟨g, g2⟩
  · omega
  · omega
  · omega
  · exact h2.uniq g2
noncomputable def chaP (V : Nat → Int) (b b2 f t wh z : Int) : Prop := (z = -1 ∧ (((b < 0 ∨ 3 < b) ∨ (f < 0 ∨ szV V ≤ f ∨ V (40 + f.toNat) = 126) ∨ (t < 0 ∨ szV V ≤ t ∨ V (40 + t.toNat) = 126)) ∨ (b2 < 0 ∨ 3 < b2) ∨ b = b2)) ∨ (z = -2 ∧ (((0 ≤ b ∧ b ≤ 3) ∧ (0 ≤ f ∧ f < szV V ∧ V (40 + f.toNat) ≠ 126) ∧ (0 ≤ t ∧ t < szV V ∧ V (40 + t.toNat) ≠ 126)) ∧ (0 ≤ b2 ∧ b2 ≤ 3) ∧ b ≠ b2) ∧ (wh < 0 ∨ 1 < wh)) ∨ ((((0 ≤ b ∧ b ≤ 3) ∧ (0 ≤ f ∧ f < szV V ∧ V (40 + f.toNat) ≠ 126) ∧ (0 ≤ t ∧ t < szV V ∧ V (40 + t.toNat) ≠ 126)) ∧ (0 ≤ b2 ∧ b2 ≤ 3) ∧ b ≠ b2) ∧ (0 ≤ wh ∧ wh ≤ 1) ∧ ∃ p : Int, trR (ET V 1000 0 0 1 (V (8 + 4 * b.toNat + 0)) (V (8 + 4 * b2.toNat + 0))) f.toNat t.toNat p ∧ ((p = -6 ∧ z = -6) ∨ (p ≠ -6 ∧ wh = 0 ∧ z = p / 1000) ∨ (p ≠ -6 ∧ wh = 1 ∧ z = p % 1000)))
theorem U_changed {V : Nat → Int} {b b2 f t wh z z2 : Int} (h : chaP V b b2 f t wh z) (g : chaP V b b2 f t wh z2) : z2 = z := by
  rcases h with h | h | ⟨h1, h2, p, h3, h4⟩ <;> rcases g with g | g | ⟨g1, g2, q, g3, g4⟩
  · omega
  · omega
  · omega
  · omega
  · omega
  · omega
  · omega
  · omega
  · have e := h3.uniq g3
    subst e
    omega
theorem o21 {w w1 : am_W} (h : only [21] w w1) : only [21, 24] w w1 := h.sub fun q hq => by rw [List.mem_singleton.mp hq]; decide
theorem o24 {w w1 : am_W} (h : only [24] w w1) : only [21, 24] w w1 := h.sub fun q hq => by rw [List.mem_singleton.mp hq]; decide
theorem e_worn {d : Nat} {w : am_W} {V : Nat → Int} (R : RCs w 3 V) (b f t : Int32) (I : ab_inv ab_TT ab_sets w) : aw none (d + 5) 75 (fun r w1 => ab_J ab_TT ab_sets ab_WR w w1 ∧ ∃ z : Int32, r = some (.int z) ∧ wonP V b.toInt f.toInt t.toInt z.toInt) (0, am_entry 75 [.ref 0, .int b, .int f, .int t], []) w := by
  have J : ab_J ab_TT ab_sets ab_WR w w := ⟨I, ab_fr.rf⟩
  have szc := szC_in I
  have hsz := R.sz
  show aw none (d + 5) 75 _ (0, [some (.ref 0), some (.int b), some (.int f), some (.int t)], []) w
  refine aw_step (f1 := (1, [some (.ref 0), some (.int b), some (.int f), some (.int t)], [(.ref 0)])) (w1 := w) rfl rfl ?_
  refine aw_step (f1 := (2, [some (.ref 0), some (.int b), some (.int f), some (.int t)], [(.int b), (.ref 0)])) (w1 := w) rfl rfl ?_
  refine aw_step (f1 := (3, [some (.ref 0), some (.int b), some (.int f), some (.int t)], [(.int f), (.int b), (.ref 0)])) (w1 := w) rfl rfl ?_
  refine aw_step (f1 := (4, [some (.ref 0), some (.int b), some (.int f), some (.int t)], [(.int t), (.int f), (.int b), (.ref 0)])) (w1 := w) rfl rfl ?_
  refine s_cv (z := 97) (p := 0) (as := [(.int b), (.int f), (.int t)]) (st1 := []) J 7 rfl rfl rfl rfl rfl rfl rfl rfl (Nat.le_of_ble_eq_true rfl) (Nat.le_of_ble_eq_true rfl) (e_canTravel R b f t J.1) ?_
  rintro _ _ ⟨rfl, x1, rfl, x1t⟩
  refine ⟨rfl, ?_⟩
  show aw none _ 75 _ (7, [some (.ref 0), some (.int b), some (.int f), some (.int t)], [(.int x1)]) w
  refine s_if 12 10 rfl rfl rfl (fun (h2 : ¬ x1.toInt = 0) => ?_) (fun (h2 : ¬ (¬ x1.toInt = 0)) => ?_)
  · --
    refine aw_step (f1 := (13, [some (.ref 0), some (.int b), some (.int f), some (.int t)], [(.ref 0)])) (w1 := w) rfl rfl ?_
    refine s_gr 21 J 16 rfl rfl rfl rfl rfl rfl ?_
    refine s_i (pc1 := 17) (ls1 := [some (.ref 0), some (.int b), some (.int f), some (.int t)]) (st1 := [(.ref 21)]) rfl rfl fun x3 e4 => ?_
    have e4t : x3.toInt = 1 := by rw [e4]; rfl
    refine s_i (pc1 := 18) (ls1 := [some (.ref 0), some (.int b), some (.int f), some (.int t)]) (st1 := [(.int x3), (.ref 21)]) rfl rfl fun x5 e6 => ?_
    have e6t : x5.toInt = 1 := by rw [e6]; rfl
    refine s_i (pc1 := 19) (ls1 := [some (.ref 0), some (.int b), some (.int f), some (.int t)]) (st1 := [(.int x5), (.int x3), (.ref 21)]) rfl rfl fun x7 e8 => ?_
    have e8t : x7.toInt = 0 := by rw [e8]; rfl
    refine s_i (pc1 := 20) (ls1 := [some (.ref 0), some (.int b), some (.int f), some (.int t)]) (st1 := [(.int x7), (.int x5), (.int x3), (.ref 21)]) rfl rfl fun x9 e10 => ?_
    have e10t : x9.toInt = 0 := by rw [e10]; rfl
    refine s_cv (z := 49) (p := 21) (as := [(.int x3), (.int x5), (.int x7), (.int x9)]) (st1 := []) J 23 rfl rfl rfl rfl rfl rfl rfl rfl (Nat.le_of_ble_eq_true rfl) (Nat.le_of_ble_eq_true rfl) (e_price x3 x5 x7 x9 J.1) ?_
    rintro _ w11 ⟨rfl, J12c, w11o, w113, w114, w115, w116⟩
    have J12 := J.trans J12c
    refine ⟨am_len2 J J12c, ?_⟩
    show aw none _ 75 _ (23, [some (.ref 0), some (.int b), some (.int f), some (.int t)], []) w11
    refine aw_step (f1 := (24, [some (.ref 0), some (.int b), some (.int f), some (.int t)], [(.ref 0)])) (w1 := w11) rfl rfl ?_
    refine s_gr 21 J12 27 rfl rfl rfl rfl rfl rfl ?_
    refine aw_step (f1 := (28, [some (.ref 0), some (.int b), some (.int f), some (.int t)], [(.ref 0), (.ref 21)])) (w1 := w11) rfl rfl ?_
    refine s_gr 3 J12 31 rfl rfl rfl rfl rfl rfl ?_
    refine s_gr 7 J12 34 rfl rfl rfl rfl rfl rfl ?_
    refine aw_step (f1 := (35, [some (.ref 0), some (.int b), some (.int f), some (.int t)], [(.int b), (.ref 7), (.ref 21)])) (w1 := w11) rfl rfl ?_
    refine s_ia J12 36 rfl rfl rfl rfl (by omega) (by omega) fun x13 x13a x13b x13f => ?_
    have x13v : x13.toInt = rI w 7 b.toInt.toNat := by rw [← rI_of x13f, w11o.rIe (by decide)]
    have hl : x13.toInt = V (8 + 4 * b.toInt.toNat + 0) := by rw [x13v]; exact R.rv (r := 4) (i := b.toInt.toNat) (by decide) (by decide) (by omega) (by show b.toInt.toNat < 4; omega)
    refine s_i (pc1 := 37) (ls1 := [some (.ref 0), some (.int b), some (.int f), some (.int t)]) (st1 := [(.int x13), (.ref 21)]) rfl rfl fun x14 e15 => ?_
    have e15t : x14.toInt = 0 := by rw [e15]; rfl
    refine s_cv (z := 50) (p := 21) (as := [(.int x13), (.int x14)]) (st1 := []) J12 40 rfl rfl rfl rfl rfl rfl rfl rfl (Nat.le_of_ble_eq_true rfl) (Nat.le_of_ble_eq_true rfl) (e_wearT x13 x14 J12.1) ?_
    rintro _ w16 ⟨rfl, J17c, w16o, w160, w161⟩
    have J17 := J12.trans J17c
    refine ⟨am_len2 J12 J17c, ?_⟩
    show aw none _ 75 _ (40, [some (.ref 0), some (.int b), some (.int f), some (.int t)], []) w16
    refine aw_step (f1 := (41, [some (.ref 0), some (.int b), some (.int f), some (.int t)], [(.ref 0)])) (w1 := w16) rfl rfl ?_
    refine s_gr 21 J17 44 rfl rfl rfl rfl rfl rfl ?_
    refine aw_step (f1 := (45, [some (.ref 0), some (.int b), some (.int f), some (.int t)], [(.ref 0), (.ref 21)])) (w1 := w16) rfl rfl ?_
    refine s_gr 3 J17 48 rfl rfl rfl rfl rfl rfl ?_
    refine aw_step (f1 := (49, [some (.ref 0), some (.int b), some (.int f), some (.int t)], [(.int f), (.ref 3), (.ref 21)])) (w1 := w16) rfl rfl ?_
    refine aw_step (f1 := (50, [some (.ref 0), some (.int b), some (.int f), some (.int t)], [(.int t), (.int f), (.ref 3), (.ref 21)])) (w1 := w16) rfl rfl ?_
    refine s_cv (z := 51) (p := 21) (as := [(.ref 3), (.int f), (.int t)]) (st1 := []) J17 53 rfl rfl rfl rfl rfl rfl rfl rfl (Nat.le_of_ble_eq_true rfl) (Nat.le_of_ble_eq_true rfl) (e_cheapest (d := d + 1) (ps := 1) (oh := 1) (st := 0) (ch := 0) (L0 := (V (8 + 4 * b.toInt.toNat + 0))) (L1 := 0) (R.of ((o21 w11o).trans (o24 w16o)) (by decide)) (by unfold okT; omega) (by rw [w16o.fIe (by decide), w113]; omega) (by rw [w16o.fIe (by decide), w114]; omega) (by rw [w16o.fIe (by decide), w115]; omega) (by rw [w16o.fIe (by decide), w116]; omega) (by rw [w160]; omega) (by rw [w161]; omega) ⟨⟨by omega, by omega⟩, by omega, by omega⟩ f t ⟨by omega, by omega, by omega⟩ ⟨by omega, by omega⟩ J17.1) ?_
    rintro _ w19 ⟨J20c, x18, rfl, x18b, x18t⟩
    have J20 := J17.trans J20c
    refine ⟨am_len2 J17 J20c, ?_⟩
    show aw none _ 75 _ (53, [some (.ref 0), some (.int b), some (.int f), some (.int t)], [(.int x18)]) w19
    refine aw_ret (v := some (.int x18)) rfl rfl ?_
    exact ⟨J20, x18, rfl, Or.inr ⟨⟨⟨by omega, by omega⟩, ⟨by omega, by omega, by omega⟩, by omega, by omega, by omega⟩, x18t⟩⟩
  · --
    refine s_i (pc1 := 11) (ls1 := [some (.ref 0), some (.int b), some (.int f), some (.int t)]) (st1 := []) rfl rfl fun x21 e22 => ?_
    have e22t : x21.toInt = -1 := by rw [e22]; rfl
    refine aw_ret (v := some (.int x21)) rfl rfl ?_
    exact ⟨J, x21, rfl, Or.inl ⟨by omega, by omega⟩⟩
theorem e_time {d : Nat} {w : am_W} {V : Nat → Int} (R : RCs w 3 V) (b f t : Int32) (I : ab_inv ab_TT ab_sets w) : aw none (d + 5) 77 (fun r w1 => ab_J ab_TT ab_sets ab_WR w w1 ∧ ∃ z : Int32, r = some (.int z) ∧ timP V b.toInt f.toInt t.toInt z.toInt) (0, am_entry 77 [.ref 0, .int b, .int f, .int t], []) w := by
  have J : ab_J ab_TT ab_sets ab_WR w w := ⟨I, ab_fr.rf⟩
  have szc := szC_in I
  have hsz := R.sz
  show aw none (d + 5) 77 _ (0, [some (.ref 0), some (.int b), some (.int f), some (.int t)], []) w
  refine aw_step (f1 := (1, [some (.ref 0), some (.int b), some (.int f), some (.int t)], [(.ref 0)])) (w1 := w) rfl rfl ?_
  refine aw_step (f1 := (2, [some (.ref 0), some (.int b), some (.int f), some (.int t)], [(.int b), (.ref 0)])) (w1 := w) rfl rfl ?_
  refine aw_step (f1 := (3, [some (.ref 0), some (.int b), some (.int f), some (.int t)], [(.int f), (.int b), (.ref 0)])) (w1 := w) rfl rfl ?_
  refine aw_step (f1 := (4, [some (.ref 0), some (.int b), some (.int f), some (.int t)], [(.int t), (.int f), (.int b), (.ref 0)])) (w1 := w) rfl rfl ?_
  refine s_cv (z := 97) (p := 0) (as := [(.int b), (.int f), (.int t)]) (st1 := []) J 7 rfl rfl rfl rfl rfl rfl rfl rfl (Nat.le_of_ble_eq_true rfl) (Nat.le_of_ble_eq_true rfl) (e_canTravel R b f t J.1) ?_
  rintro _ _ ⟨rfl, x1, rfl, x1t⟩
  refine ⟨rfl, ?_⟩
  show aw none _ 77 _ (7, [some (.ref 0), some (.int b), some (.int f), some (.int t)], [(.int x1)]) w
  refine s_if 12 10 rfl rfl rfl (fun (h2 : ¬ x1.toInt = 0) => ?_) (fun (h2 : ¬ (¬ x1.toInt = 0)) => ?_)
  · --
    refine aw_step (f1 := (13, [some (.ref 0), some (.int b), some (.int f), some (.int t)], [(.ref 0)])) (w1 := w) rfl rfl ?_
    refine s_gr 21 J 16 rfl rfl rfl rfl rfl rfl ?_
    refine aw_step (f1 := (17, [some (.ref 0), some (.int b), some (.int f), some (.int t)], [(.ref 0), (.ref 21)])) (w1 := w) rfl rfl ?_
    refine s_gr 3 J 20 rfl rfl rfl rfl rfl rfl ?_
    refine s_gr 9 J 23 rfl rfl rfl rfl rfl rfl ?_
    refine s_i (pc1 := 24) (ls1 := [some (.ref 0), some (.int b), some (.int f), some (.int t)]) (st1 := [(.ref 9), (.ref 21)]) rfl rfl fun x3 e4 => ?_
    have e4t : x3.toInt = 0 := by rw [e4]; rfl
    --
    refine s_ia J 25 rfl rfl rfl rfl (by omega) (by omega) fun x5 x5a x5b x5f => ?_
    have x5v : x5.toInt = rI w 9 x3.toInt.toNat := by rw [← rI_of x5f]
    have q4 : x5.toInt = V 4 := by rw [x5v, show x3.toInt.toNat = 0 by omega]; exact R.rv (r := 6) (i := 0) (by decide) (by decide) (by decide) (by decide)
    refine s_i (pc1 := 26) (ls1 := [some (.ref 0), some (.int b), some (.int f), some (.int t)]) (st1 := [(.int x5), (.ref 21)]) rfl rfl fun x6 e7 => ?_
    have e7t : x6.toInt = 0 := by rw [e7]; rfl
    refine aw_step (f1 := (27, [some (.ref 0), some (.int b), some (.int f), some (.int t)], [(.ref 0), (.int x6), (.int x5), (.ref 21)])) (w1 := w) rfl rfl ?_
    refine s_gr 3 J 30 rfl rfl rfl rfl rfl rfl ?_
    refine s_gr 9 J 33 rfl rfl rfl rfl rfl rfl ?_
    refine s_i (pc1 := 34) (ls1 := [some (.ref 0), some (.int b), some (.int f), some (.int t)]) (st1 := [(.ref 9), (.int x6), (.int x5), (.ref 21)]) rfl rfl fun x8 e9 => ?_
    have e9t : x8.toInt = 1 := by rw [e9]; rfl
    --
    refine s_ia J 35 rfl rfl rfl rfl (by omega) (by omega) fun x10 x10a x10b x10f => ?_
    have x10v : x10.toInt = rI w 9 x8.toInt.toNat := by rw [← rI_of x10f]
    have q5 : x10.toInt = V 5 := by rw [x10v, show x8.toInt.toNat = 1 by omega]; exact R.rv (r := 6) (i := 1) (by decide) (by decide) (by decide) (by decide)
    refine s_i (pc1 := 36) (ls1 := [some (.ref 0), some (.int b), some (.int f), some (.int t)]) (st1 := [(.int x10), (.int x6), (.int x5), (.ref 21)]) rfl rfl fun x11 e12 => ?_
    have e12t : x11.toInt = 0 := by rw [e12]; rfl
    refine s_cv (z := 49) (p := 21) (as := [(.int x5), (.int x6), (.int x10), (.int x11)]) (st1 := []) J 39 rfl rfl rfl rfl rfl rfl rfl rfl (Nat.le_of_ble_eq_true rfl) (Nat.le_of_ble_eq_true rfl) (e_price x5 x6 x10 x11 J.1) ?_
    rintro _ w13 ⟨rfl, J14c, w13o, w133, w134, w135, w136⟩
    have J14 := J.trans J14c
    refine ⟨am_len2 J J14c, ?_⟩
    show aw none _ 77 _ (39, [some (.ref 0), some (.int b), some (.int f), some (.int t)], []) w13
    refine aw_step (f1 := (40, [some (.ref 0), some (.int b), some (.int f), some (.int t)], [(.ref 0)])) (w1 := w13) rfl rfl ?_
    refine s_gr 21 J14 43 rfl rfl rfl rfl rfl rfl ?_
    refine aw_step (f1 := (44, [some (.ref 0), some (.int b), some (.int f), some (.int t)], [(.ref 0), (.ref 21)])) (w1 := w13) rfl rfl ?_
    refine s_gr 3 J14 47 rfl rfl rfl rfl rfl rfl ?_
    refine s_gr 7 J14 50 rfl rfl rfl rfl rfl rfl ?_
    refine aw_step (f1 := (51, [some (.ref 0), some (.int b), some (.int f), some (.int t)], [(.int b), (.ref 7), (.ref 21)])) (w1 := w13) rfl rfl ?_
    refine s_ia J14 52 rfl rfl rfl rfl (by omega) (by omega) fun x15 x15a x15b x15f => ?_
    have x15v : x15.toInt = rI w 7 b.toInt.toNat := by rw [← rI_of x15f, w13o.rIe (by decide)]
    have hl : x15.toInt = V (8 + 4 * b.toInt.toNat + 0) := by rw [x15v]; exact R.rv (r := 4) (i := b.toInt.toNat) (by decide) (by decide) (by omega) (by show b.toInt.toNat < 4; omega)
    refine s_i (pc1 := 53) (ls1 := [some (.ref 0), some (.int b), some (.int f), some (.int t)]) (st1 := [(.int x15), (.ref 21)]) rfl rfl fun x16 e17 => ?_
    have e17t : x16.toInt = 0 := by rw [e17]; rfl
    refine s_cv (z := 50) (p := 21) (as := [(.int x15), (.int x16)]) (st1 := []) J14 56 rfl rfl rfl rfl rfl rfl rfl rfl (Nat.le_of_ble_eq_true rfl) (Nat.le_of_ble_eq_true rfl) (e_wearT x15 x16 J14.1) ?_
    rintro _ w18 ⟨rfl, J19c, w18o, w180, w181⟩
    have J19 := J14.trans J19c
    refine ⟨am_len2 J14 J19c, ?_⟩
    show aw none _ 77 _ (56, [some (.ref 0), some (.int b), some (.int f), some (.int t)], []) w18
    refine aw_step (f1 := (57, [some (.ref 0), some (.int b), some (.int f), some (.int t)], [(.ref 0)])) (w1 := w18) rfl rfl ?_
    refine s_gr 21 J19 60 rfl rfl rfl rfl rfl rfl ?_
    refine aw_step (f1 := (61, [some (.ref 0), some (.int b), some (.int f), some (.int t)], [(.ref 0), (.ref 21)])) (w1 := w18) rfl rfl ?_
    refine s_gr 3 J19 64 rfl rfl rfl rfl rfl rfl ?_
    refine aw_step (f1 := (65, [some (.ref 0), some (.int b), some (.int f), some (.int t)], [(.int f), (.ref 3), (.ref 21)])) (w1 := w18) rfl rfl ?_
    refine aw_step (f1 := (66, [some (.ref 0), some (.int b), some (.int f), some (.int t)], [(.int t), (.int f), (.ref 3), (.ref 21)])) (w1 := w18) rfl rfl ?_
    refine s_cv (z := 51) (p := 21) (as := [(.ref 3), (.int f), (.int t)]) (st1 := []) J19 69 rfl rfl rfl rfl rfl rfl rfl rfl (Nat.le_of_ble_eq_true rfl) (Nat.le_of_ble_eq_true rfl) (e_cheapest (d := d + 1) (ps := V 4) (oh := 0) (st := V 5) (ch := 0) (L0 := (V (8 + 4 * b.toInt.toNat + 0))) (L1 := 0) (R.of ((o21 w13o).trans (o24 w18o)) (by decide)) (by unfold okT; omega) (by rw [w18o.fIe (by decide), w133]; omega) (by rw [w18o.fIe (by decide), w134]; omega) (by rw [w18o.fIe (by decide), w135]; omega) (by rw [w18o.fIe (by decide), w136]; omega) (by rw [w180]; omega) (by rw [w181]; omega) ⟨⟨by omega, by omega⟩, by omega, by omega⟩ f t ⟨by omega, by omega, by omega⟩ ⟨by omega, by omega⟩ J19.1) ?_
    rintro _ w21 ⟨J22c, x20, rfl, x20b, x20t⟩
    have J22 := J19.trans J22c
    refine ⟨am_len2 J19 J22c, ?_⟩
    show aw none _ 77 _ (69, [some (.ref 0), some (.int b), some (.int f), some (.int t)], [(.int x20)]) w21
    refine aw_ret (v := some (.int x20)) rfl rfl ?_
    exact ⟨J22, x20, rfl, Or.inr ⟨⟨⟨by omega, by omega⟩, ⟨by omega, by omega, by omega⟩, by omega, by omega, by omega⟩, x20t⟩⟩
  · --
    refine s_i (pc1 := 11) (ls1 := [some (.ref 0), some (.int b), some (.int f), some (.int t)]) (st1 := []) rfl rfl fun x23 e24 => ?_
    have e24t : x23.toInt = -1 := by rw [e24]; rfl
    refine aw_ret (v := some (.int x23)) rfl rfl ?_
    exact ⟨J, x23, rfl, Or.inl ⟨by omega, by omega⟩⟩
theorem e_changed {d : Nat} {w : am_W} {V : Nat → Int} (R : RCs w 3 V) (b b2 f t wh : Int32) (I : ab_inv ab_TT ab_sets w) : aw none (d + 5) 76 (fun r w1 => ab_J ab_TT ab_sets ab_WR w w1 ∧ ∃ z : Int32, r = some (.int z) ∧ chaP V b.toInt b2.toInt f.toInt t.toInt wh.toInt z.toInt) (0, am_entry 76 [.ref 0, .int b, .int b2, .int f, .int t, .int wh], []) w := by
  have J : ab_J ab_TT ab_sets ab_WR w w := ⟨I, ab_fr.rf⟩
  have szc := szC_in I
  have hsz := R.sz
  show aw none (d + 5) 76 _ (0, [some (.ref 0), some (.int b), some (.int b2), some (.int f), some (.int t), some (.int wh), none], []) w
  refine aw_step (f1 := (1, [some (.ref 0), some (.int b), some (.int b2), some (.int f), some (.int t), some (.int wh), none], [(.ref 0)])) (w1 := w) rfl rfl ?_
  refine aw_step (f1 := (2, [some (.ref 0), some (.int b), some (.int b2), some (.int f), some (.int t), some (.int wh), none], [(.int b), (.ref 0)])) (w1 := w) rfl rfl ?_
  refine aw_step (f1 := (3, [some (.ref 0), some (.int b), some (.int b2), some (.int f), some (.int t), some (.int wh), none], [(.int f), (.int b), (.ref 0)])) (w1 := w) rfl rfl ?_
  refine aw_step (f1 := (5, [some (.ref 0), some (.int b), some (.int b2), some (.int f), some (.int t), some (.int wh), none], [(.int t), (.int f), (.int b), (.ref 0)])) (w1 := w) rfl rfl ?_
  refine s_cv (z := 97) (p := 0) (as := [(.int b), (.int f), (.int t)]) (st1 := []) J 8 rfl rfl rfl rfl rfl rfl rfl rfl (Nat.le_of_ble_eq_true rfl) (Nat.le_of_ble_eq_true rfl) (e_canTravel R b f t J.1) ?_
  rintro _ _ ⟨rfl, x1, rfl, x1t⟩
  refine ⟨rfl, ?_⟩
  show aw none _ 76 _ (8, [some (.ref 0), some (.int b), some (.int b2), some (.int f), some (.int t), some (.int wh), none], [(.int x1)]) w
  refine s_if 23 11 rfl rfl rfl (fun (h2 : x1.toInt = 0) => ?_) (fun (h2 : ¬ (x1.toInt = 0)) => ?_)
  · --
    refine s_i (pc1 := 24) (ls1 := [some (.ref 0), some (.int b), some (.int b2), some (.int f), some (.int t), some (.int wh), none]) (st1 := []) rfl rfl fun x3 e4 => ?_
    have e4t : x3.toInt = -1 := by rw [e4]; rfl
    refine aw_ret (v := some (.int x3)) rfl rfl ?_
    first
      | exact ⟨J, x3, rfl, Or.inl ⟨by omega, by omega⟩⟩
      | exact ⟨J, x3, rfl, Or.inr (Or.inl ⟨by omega, by omega, by omega⟩)⟩
  · --
    refine aw_step (f1 := (12, [some (.ref 0), some (.int b), some (.int b2), some (.int f), some (.int t), some (.int wh), none], [(.int b2)])) (w1 := w) rfl rfl ?_
    refine s_cs (z := 103) (as := [(.int b2)]) (st1 := []) 15 rfl rfl rfl rfl rfl rfl (Nat.le_of_ble_eq_true rfl) (Nat.le_of_ble_eq_true rfl) (Nat.le_of_ble_eq_true rfl) (q_isBoots b2) ?_
    rintro _ _ ⟨rfl, x5, rfl, x5t⟩
    refine ⟨rfl, ?_⟩
    show aw none _ 76 _ (15, [some (.ref 0), some (.int b), some (.int b2), some (.int f), some (.int t), some (.int wh), none], [(.int x5)]) w
    refine s_if 23 18 rfl rfl rfl (fun (h6 : x5.toInt = 0) => ?_) (fun (h6 : ¬ (x5.toInt = 0)) => ?_)
    · --
      refine s_i (pc1 := 24) (ls1 := [some (.ref 0), some (.int b), some (.int b2), some (.int f), some (.int t), some (.int wh), none]) (st1 := []) rfl rfl fun x7 e8 => ?_
      have e8t : x7.toInt = -1 := by rw [e8]; rfl
      refine aw_ret (v := some (.int x7)) rfl rfl ?_
      first
        | exact ⟨J, x7, rfl, Or.inl ⟨by omega, by omega⟩⟩
        | exact ⟨J, x7, rfl, Or.inr (Or.inl ⟨by omega, by omega, by omega⟩)⟩
    · --
      refine aw_step (f1 := (19, [some (.ref 0), some (.int b), some (.int b2), some (.int f), some (.int t), some (.int wh), none], [(.int b2)])) (w1 := w) rfl rfl ?_
      refine aw_step (f1 := (20, [some (.ref 0), some (.int b), some (.int b2), some (.int f), some (.int t), some (.int wh), none], [(.int b), (.int b2)])) (w1 := w) rfl rfl ?_
      refine s_ic 25 23 rfl rfl rfl (fun (h9 : ¬ b2.toInt = b.toInt) => ?_) (fun (h9 : ¬ (¬ b2.toInt = b.toInt)) => ?_)
      · --
        refine aw_step (f1 := (27, [some (.ref 0), some (.int b), some (.int b2), some (.int f), some (.int t), some (.int wh), none], [(.int wh)])) (w1 := w) rfl rfl ?_
        refine s_i (pc1 := 28) (ls1 := [some (.ref 0), some (.int b), some (.int b2), some (.int f), some (.int t), some (.int wh), none]) (st1 := [(.int wh)]) rfl rfl fun x10 e11 => ?_
        have e11t : x10.toInt = 0 := by rw [e11]; rfl
        refine s_i (pc1 := 29) (ls1 := [some (.ref 0), some (.int b), some (.int b2), some (.int f), some (.int t), some (.int wh), none]) (st1 := [(.int x10), (.int wh)]) rfl rfl fun x12 e13 => ?_
        have e13t : x12.toInt = 1 := by rw [e13]; rfl
        refine s_cs (z := 102) (as := [(.int wh), (.int x10), (.int x12)]) (st1 := []) 32 rfl rfl rfl rfl rfl rfl (Nat.le_of_ble_eq_true rfl) (Nat.le_of_ble_eq_true rfl) (Nat.le_of_ble_eq_true rfl) (q_within wh x10 x12) ?_
        rintro _ _ ⟨rfl, x14, rfl, x14t⟩
        refine ⟨rfl, ?_⟩
        show aw none _ 76 _ (32, [some (.ref 0), some (.int b), some (.int b2), some (.int f), some (.int t), some (.int wh), none], [(.int x14)]) w
        refine s_if 38 35 rfl rfl rfl (fun (h15 : ¬ x14.toInt = 0) => ?_) (fun (h15 : ¬ (¬ x14.toInt = 0)) => ?_)
        · --
          refine aw_step (f1 := (39, [some (.ref 0), some (.int b), some (.int b2), some (.int f), some (.int t), some (.int wh), none], [(.ref 0)])) (w1 := w) rfl rfl ?_
          refine s_gr 21 J 42 rfl rfl rfl rfl rfl rfl ?_
          refine s_i (pc1 := 45) (ls1 := [some (.ref 0), some (.int b), some (.int b2), some (.int f), some (.int t), some (.int wh), none]) (st1 := [(.ref 21)]) rfl rfl fun x16 e17 => ?_
          have e17t : x16.toInt = 1000 := by rw [e17]; rfl
          refine s_i (pc1 := 46) (ls1 := [some (.ref 0), some (.int b), some (.int b2), some (.int f), some (.int t), some (.int wh), none]) (st1 := [(.int x16), (.ref 21)]) rfl rfl fun x18 e19 => ?_
          have e19t : x18.toInt = 0 := by rw [e19]; rfl
          refine s_i (pc1 := 47) (ls1 := [some (.ref 0), some (.int b), some (.int b2), some (.int f), some (.int t), some (.int wh), none]) (st1 := [(.int x18), (.int x16), (.ref 21)]) rfl rfl fun x20 e21 => ?_
          have e21t : x20.toInt = 0 := by rw [e21]; rfl
          refine s_i (pc1 := 48) (ls1 := [some (.ref 0), some (.int b), some (.int b2), some (.int f), some (.int t), some (.int wh), none]) (st1 := [(.int x20), (.int x18), (.int x16), (.ref 21)]) rfl rfl fun x22 e23 => ?_
          have e23t : x22.toInt = 1 := by rw [e23]; rfl
          refine s_cv (z := 49) (p := 21) (as := [(.int x16), (.int x18), (.int x20), (.int x22)]) (st1 := []) J 51 rfl rfl rfl rfl rfl rfl rfl rfl (Nat.le_of_ble_eq_true rfl) (Nat.le_of_ble_eq_true rfl) (e_price x16 x18 x20 x22 J.1) ?_
          rintro _ w24 ⟨rfl, J25c, w24o, w243, w244, w245, w246⟩
          have J25 := J.trans J25c
          refine ⟨am_len2 J J25c, ?_⟩
          show aw none _ 76 _ (51, [some (.ref 0), some (.int b), some (.int b2), some (.int f), some (.int t), some (.int wh), none], []) w24
          refine aw_step (f1 := (52, [some (.ref 0), some (.int b), some (.int b2), some (.int f), some (.int t), some (.int wh), none], [(.ref 0)])) (w1 := w24) rfl rfl ?_
          refine s_gr 21 J25 55 rfl rfl rfl rfl rfl rfl ?_
          refine aw_step (f1 := (56, [some (.ref 0), some (.int b), some (.int b2), some (.int f), some (.int t), some (.int wh), none], [(.ref 0), (.ref 21)])) (w1 := w24) rfl rfl ?_
          refine s_gr 3 J25 59 rfl rfl rfl rfl rfl rfl ?_
          refine s_gr 7 J25 62 rfl rfl rfl rfl rfl rfl ?_
          refine aw_step (f1 := (63, [some (.ref 0), some (.int b), some (.int b2), some (.int f), some (.int t), some (.int wh), none], [(.int b), (.ref 7), (.ref 21)])) (w1 := w24) rfl rfl ?_
          refine s_ia J25 64 rfl rfl rfl rfl (by omega) (by omega) fun x26 x26a x26b x26f => ?_
          have x26v : x26.toInt = rI w 7 b.toInt.toNat := by rw [← rI_of x26f, w24o.rIe (by decide)]
          have hl : x26.toInt = V (8 + 4 * b.toInt.toNat + 0) := by rw [x26v]; exact R.rv (r := 4) (i := b.toInt.toNat) (by decide) (by decide) (by omega) (by show b.toInt.toNat < 4; omega)
          refine aw_step (f1 := (65, [some (.ref 0), some (.int b), some (.int b2), some (.int f), some (.int t), some (.int wh), none], [(.ref 0), (.int x26), (.ref 21)])) (w1 := w24) rfl rfl ?_
          refine s_gr 3 J25 68 rfl rfl rfl rfl rfl rfl ?_
          refine s_gr 7 J25 71 rfl rfl rfl rfl rfl rfl ?_
          refine aw_step (f1 := (72, [some (.ref 0), some (.int b), some (.int b2), some (.int f), some (.int t), some (.int wh), none], [(.int b2), (.ref 7), (.int x26), (.ref 21)])) (w1 := w24) rfl rfl ?_
          refine s_ia J25 73 rfl rfl rfl rfl (by omega) (by omega) fun x27 x27a x27b x27f => ?_
          have x27v : x27.toInt = rI w 7 b2.toInt.toNat := by rw [← rI_of x27f, w24o.rIe (by decide)]
          have hl2 : x27.toInt = V (8 + 4 * b2.toInt.toNat + 0) := by rw [x27v]; exact R.rv (r := 4) (i := b2.toInt.toNat) (by decide) (by decide) (by omega) (by show b2.toInt.toNat < 4; omega)
          refine s_cv (z := 50) (p := 21) (as := [(.int x26), (.int x27)]) (st1 := []) J25 76 rfl rfl rfl rfl rfl rfl rfl rfl (Nat.le_of_ble_eq_true rfl) (Nat.le_of_ble_eq_true rfl) (e_wearT x26 x27 J25.1) ?_
          rintro _ w28 ⟨rfl, J29c, w28o, w280, w281⟩
          have J29 := J25.trans J29c
          refine ⟨am_len2 J25 J29c, ?_⟩
          show aw none _ 76 _ (76, [some (.ref 0), some (.int b), some (.int b2), some (.int f), some (.int t), some (.int wh), none], []) w28
          refine aw_step (f1 := (77, [some (.ref 0), some (.int b), some (.int b2), some (.int f), some (.int t), some (.int wh), none], [(.ref 0)])) (w1 := w28) rfl rfl ?_
          refine s_gr 21 J29 80 rfl rfl rfl rfl rfl rfl ?_
          refine aw_step (f1 := (81, [some (.ref 0), some (.int b), some (.int b2), some (.int f), some (.int t), some (.int wh), none], [(.ref 0), (.ref 21)])) (w1 := w28) rfl rfl ?_
          refine s_gr 3 J29 84 rfl rfl rfl rfl rfl rfl ?_
          refine aw_step (f1 := (85, [some (.ref 0), some (.int b), some (.int b2), some (.int f), some (.int t), some (.int wh), none], [(.int f), (.ref 3), (.ref 21)])) (w1 := w28) rfl rfl ?_
          refine aw_step (f1 := (87, [some (.ref 0), some (.int b), some (.int b2), some (.int f), some (.int t), some (.int wh), none], [(.int t), (.int f), (.ref 3), (.ref 21)])) (w1 := w28) rfl rfl ?_
          refine s_cv (z := 51) (p := 21) (as := [(.ref 3), (.int f), (.int t)]) (st1 := []) J29 90 rfl rfl rfl rfl rfl rfl rfl rfl (Nat.le_of_ble_eq_true rfl) (Nat.le_of_ble_eq_true rfl) (e_cheapest (d := d + 1) (ps := 1000) (oh := 0) (st := 0) (ch := 1) (L0 := (V (8 + 4 * b.toInt.toNat + 0))) (L1 := (V (8 + 4 * b2.toInt.toNat + 0))) (R.of ((o21 w24o).trans (o24 w28o)) (by decide)) (by unfold okT; omega) (by rw [w28o.fIe (by decide), w243]; omega) (by rw [w28o.fIe (by decide), w244]; omega) (by rw [w28o.fIe (by decide), w245]; omega) (by rw [w28o.fIe (by decide), w246]; omega) (by rw [w280]; omega) (by rw [w281]; omega) ⟨⟨by omega, by omega⟩, by omega, by omega⟩ f t ⟨by omega, by omega, by omega⟩ ⟨by omega, by omega⟩ J29.1) ?_
          rintro _ w31 ⟨J32c, x30, rfl, x30b, x30t⟩
          have J32 := J29.trans J32c
          refine ⟨am_len2 J29 J32c, ?_⟩
          show aw none _ 76 _ (90, [some (.ref 0), some (.int b), some (.int b2), some (.int f), some (.int t), some (.int wh), none], [(.int x30)]) w31
          refine aw_step (f1 := (92, [some (.ref 0), some (.int b), some (.int b2), some (.int f), some (.int t), some (.int wh), some (.int x30)], [])) (w1 := w31) rfl rfl ?_
          refine aw_step (f1 := (94, [some (.ref 0), some (.int b), some (.int b2), some (.int f), some (.int t), some (.int wh), some (.int x30)], [(.int x30)])) (w1 := w31) rfl rfl ?_
          refine s_i (pc1 := 96) (ls1 := [some (.ref 0), some (.int b), some (.int b2), some (.int f), some (.int t), some (.int wh), some (.int x30)]) (st1 := [(.int x30)]) rfl rfl fun x33 e34 => ?_
          have e34t : x33.toInt = -6 := by rw [e34]; rfl
          refine s_ic 102 99 rfl rfl rfl (fun (h35 : ¬ x30.toInt = x33.toInt) => ?_) (fun (h35 : ¬ (¬ x30.toInt = x33.toInt)) => ?_)
          · --
            refine aw_step (f1 := (104, [some (.ref 0), some (.int b), some (.int b2), some (.int f), some (.int t), some (.int wh), some (.int x30)], [(.int wh)])) (w1 := w31) rfl rfl ?_
            refine s_if 116 107 rfl rfl rfl (fun (h36 : ¬ wh.toInt = 0) => ?_) (fun (h36 : ¬ (¬ wh.toInt = 0)) => ?_)
            · --
              refine aw_step (f1 := (118, [some (.ref 0), some (.int b), some (.int b2), some (.int f), some (.int t), some (.int wh), some (.int x30)], [(.int x30)])) (w1 := w31) rfl rfl ?_
              refine s_i (pc1 := 121) (ls1 := [some (.ref 0), some (.int b), some (.int b2), some (.int f), some (.int t), some (.int wh), some (.int x30)]) (st1 := [(.int x30)]) rfl rfl fun x37 e38 => ?_
              have e38t : x37.toInt = 1000 := by rw [e38]; rfl
              refine s_dv (f := fun x y => x - x / y * y) 122 rfl rfl (by omega) fun x39 e40 => ?_
              have e40 : x39 = x30 - x30 / x37 * x37 := e40
              have e40t : x39.toInt = x30.toInt % x37.toInt := by rw [e40]; exact n_rem (by omega) (by omega)
              rw [e38t] at e40t
              refine aw_ret (v := some (.int x39)) rfl rfl ?_
              exact ⟨J32, x39, rfl, Or.inr (Or.inr ⟨by omega, by omega, x30.toInt, x30t, by omega⟩)⟩
            · --
              refine aw_step (f1 := (109, [some (.ref 0), some (.int b), some (.int b2), some (.int f), some (.int t), some (.int wh), some (.int x30)], [(.int x30)])) (w1 := w31) rfl rfl ?_
              refine s_i (pc1 := 112) (ls1 := [some (.ref 0), some (.int b), some (.int b2), some (.int f), some (.int t), some (.int wh), some (.int x30)]) (st1 := [(.int x30)]) rfl rfl fun x41 e42 => ?_
              have e42t : x41.toInt = 1000 := by rw [e42]; rfl
              refine s_dv (f := fun x y => x / y) 113 rfl rfl (by omega) fun x43 e44 => ?_
              have e44 : x43 = x30 / x41 := e44
              have e44t : x43.toInt = x30.toInt / x41.toInt := by rw [e44]; exact n_div (by omega) (by omega)
              rw [e42t] at e44t
              refine aw_step (f1 := (122, [some (.ref 0), some (.int b), some (.int b2), some (.int f), some (.int t), some (.int wh), some (.int x30)], [(.int x43)])) (w1 := w31) rfl rfl ?_
              refine aw_ret (v := some (.int x43)) rfl rfl ?_
              exact ⟨J32, x43, rfl, Or.inr (Or.inr ⟨by omega, by omega, x30.toInt, x30t, by omega⟩)⟩
          · --
            refine s_i (pc1 := 101) (ls1 := [some (.ref 0), some (.int b), some (.int b2), some (.int f), some (.int t), some (.int wh), some (.int x30)]) (st1 := []) rfl rfl fun x45 e46 => ?_
            have e46t : x45.toInt = -6 := by rw [e46]; rfl
            refine aw_ret (v := some (.int x45)) rfl rfl ?_
            exact ⟨J32, x45, rfl, Or.inr (Or.inr ⟨by omega, by omega, x30.toInt, x30t, by omega⟩)⟩
        · --
          refine s_i (pc1 := 37) (ls1 := [some (.ref 0), some (.int b), some (.int b2), some (.int f), some (.int t), some (.int wh), none]) (st1 := []) rfl rfl fun x47 e48 => ?_
          have e48t : x47.toInt = -2 := by rw [e48]; rfl
          refine aw_ret (v := some (.int x47)) rfl rfl ?_
          first
            | exact ⟨J, x47, rfl, Or.inl ⟨by omega, by omega⟩⟩
            | exact ⟨J, x47, rfl, Or.inr (Or.inl ⟨by omega, by omega, by omega⟩)⟩
      · --
        refine s_i (pc1 := 24) (ls1 := [some (.ref 0), some (.int b), some (.int b2), some (.int f), some (.int t), some (.int wh), none]) (st1 := []) rfl rfl fun x49 e50 => ?_
        have e50t : x49.toInt = -1 := by rw [e50]; rfl
        refine aw_ret (v := some (.int x49)) rfl rfl ?_
        first
          | exact ⟨J, x49, rfl, Or.inl ⟨by omega, by omega⟩⟩
          | exact ⟨J, x49, rfl, Or.inr (Or.inl ⟨by omega, by omega, by omega⟩)⟩
