/-! ===== errands of the model ===== -/
noncomputable def satV (V : Nat → Int) (L : Int) (f : Nat) : Prop := ∀ n j : Nat, n < 1000 → j < 36 → wV V L f n j → wV V L f 36 j
theorem dm_sat {V : Nat → Int} {L : Int} {f : Nat} {r : Nat → Int} (dm : dmV V L f r) (hr : ∀ j : Nat, j < 36 → r j = 100000 ∨ (0 ≤ r j ∧ r j < 36)) : satV V L f := fun n j hn hj a => by
  have b := dm.1 n j hn a
  exact (dmV_36 dm hr hj).mp (by omega)
noncomputable def bmV (V : Nat → Int) (L : Int) (m : Nat) (pl bm : Nat → Int) : Prop := ∀ a b, a ≤ m → b ≤ m → dsV V L (pl a).toNat (pl b).toNat (nn (bm (6 * a + b)))
theorem leg_con {V : Nat → Int} {L : Int} {m : Nat} {pl bm : Nat → Int} {g : Nat → Nat} (hz : szV V ≤ 36) (hb : ∀ a b, a ≤ m → b ≤ m → 0 ≤ bm (6 * a + b)) (hd : bmV V L m pl bm) (hs : ∀ a, a ≤ m → satV V L (pl a).toNat) (hl : ∀ a, a ≤ m → (((pl a).toNat : Nat) : Int) < szV V ∧ V (40 + (pl a).toNat) ≠ 126) (pg : pmV m g) (hS : SS m bm g < 100000) : ∀ a b, a ≤ m → b ≤ m → nn (bm (6 * a + b)) ≠ -6 := by
  have c36 : ∀ a, a ≤ m → (pl a).toNat < 36 := fun a ha => by have := (hl a ha).1; omega
  have fin : ∀ a b, a ≤ m → b ≤ m → bm (6 * a + b) < 100000 → wV V L (pl a).toNat 36 (pl b).toNat := fun a b ha hb' h => by
    rcases hd a b ha hb' with q | ⟨d, q1, q2, q3⟩
    · rw [nn_n (by omega)] at q
      have := hb a b ha hb'
      omega
    · exact wV_le q2 q3.1
  have lb := hb (pvo m g m) m (pvo_le pg.1 (Nat.le_refl _)) (Nat.le_refl _)
  have legs := (ss_leg (B := 100000) pg.1 hb (k := m) (Nat.le_refl _) (by unfold SS at hS; omega)).2
  have rch : ∀ k, k ≤ m → wV V L (pl m).toNat 36 (pl (pvo m g k)).toNat := by
    intro k
    induction k with
    | zero => intro _; exact wV_le (Nat.zero_le _) rfl
    | succ k ih =>
      intro hk
      have a := ih (by omega)
      have gk := pg.1 k (by omega)
      have b := fin _ _ (pvo_le pg.1 (show k ≤ m by omega)) (show g k ≤ m by omega) (legs k (by omega))
      exact hs m (Nat.le_refl _) _ _ (by omega) (c36 _ (by show g k ≤ m; omega)) (wV_tr a b)
  have all : ∀ a, a ≤ m → wV V L (pl m).toNat 36 (pl a).toNat := fun a ha => by
    by_cases e : a = m
    · rw [e]; exact wV_le (Nat.zero_le _) rfl
    · obtain ⟨k, k1, k2⟩ := pg.2 a (by omega)
      have := rch (k + 1) (by omega)
      rw [show pvo m g (k + 1) = g k from rfl, k2] at this
      exact this
  intro a b ha hb' e
  have w := hs a ha _ _ (by omega) (c36 b hb') (wV_tr (wV_sy (hl m (Nat.le_refl _)) (all a ha)) (all b hb'))
  rcases hd a b ha hb' with q | ⟨d, q1, q2, q3⟩
  · exact q.2 w
  · omega
theorem f_leB {d m : Nat} {Q : Option Value → am_W → Prop} {w00 wb : am_W} (x : Int64) (a : Int32) (hm : m ≤ 5) (ha : 0 ≤ a.toInt ∧ a.toInt ≤ m) (hM : fI wb 65 28 = m) (K : ∀ (w : am_W) (b : Int32), ab_J ab_TT ab_sets ab_WR w00 w → only [80] wb w → (∀ q, q ≤ m → rI w 80 (6 * a.toInt.toNat + q) = rI wb 77 (rI wb 79 q).toNat) → (∀ q, (q < 6 * a.toInt.toNat ∨ 6 * a.toInt.toNat + 5 < q) → rI w 80 q = rI wb 80 q) → aw none (d + 1) 153 Q (124, [some (.ref 65), some (.long x), none, some (.int a), some (.int b)], []) w) : ∀ (n : Nat) (w : am_W) (b : Int32), ((m : Int) + 1 - b.toInt).toNat < n → 0 ≤ b.toInt → b.toInt ≤ m + 1 → ab_J ab_TT ab_sets ab_WR w00 w → only [80] wb w → (∀ q : Nat, (q : Int) < b.toInt → rI w 80 (6 * a.toInt.toNat + q) = rI wb 77 (rI wb 79 q).toNat) → (∀ q, (q < 6 * a.toInt.toNat ∨ 6 * a.toInt.toNat + 5 < q) → rI w 80 q = rI wb 80 q) → aw none (d + 1) 153 Q (85, [some (.ref 65), some (.long x), none, some (.int a), some (.int b)], []) w := by
  intro n
  induction n with
  | zero => intro w b p; omega
  | succ n ih =>
    intro w b p1 p2 p3 J O F G
    have M2 : fI w 65 28 = m := by rw [O.fIe (by decide)]; exact hM
    refine aw_step (f1 := (87, [some (.ref 65), some (.long x), none, some (.int a), some (.int b)], [(.int b)])) (w1 := w) rfl rfl ?_
    refine aw_step (f1 := (88, [some (.ref 65), some (.long x), none, some (.int a), some (.int b)], [(.ref 65), (.int b)])) (w1 := w) rfl rfl ?_
    refine s_gi J 91 rfl rfl rfl rfl rfl rfl fun x1 x1a x1b x1f => ?_
    have x1v : x1.toInt = fI w 65 28 := by rw [← fI_of x1f]
    refine s_ic 124 94 rfl rfl rfl (fun (h2 : x1.toInt < b.toInt) => ?_) (fun (h2 : ¬ (x1.toInt < b.toInt)) => ?_)
    · --
      exact K w b J O (fun q hq => F q (by omega)) G
    · --
      refine aw_step (f1 := (95, [some (.ref 65), some (.long x), none, some (.int a), some (.int b)], [(.ref 65)])) (w1 := w) rfl rfl ?_
      refine s_gr 80 J 98 rfl rfl rfl rfl rfl rfl ?_
      refine s_i (pc1 := 100) (ls1 := [some (.ref 65), some (.long x), none, some (.int a), some (.int b)]) (st1 := [(.ref 80)]) rfl rfl fun x3 e4 => ?_
      have e4t : x3.toInt = 6 := by rw [e4]; rfl
      refine aw_step (f1 := (101, [some (.ref 65), some (.long x), none, some (.int a), some (.int b)], [(.int a), (.int x3), (.ref 80)])) (w1 := w) rfl rfl ?_
      refine s_i (pc1 := 102) (ls1 := [some (.ref 65), some (.long x), none, some (.int a), some (.int b)]) (st1 := [(.ref 80)]) rfl rfl fun x5 e6 => ?_
      have e6 : x5 = x3 * a := e6
      have e6t : x5.toInt = 6 * a.toInt := by rw [e6, n_mul (by rw [e4t]; omega) (by rw [e4t]; omega), e4t]
      refine aw_step (f1 := (104, [some (.ref 65), some (.long x), none, some (.int a), some (.int b)], [(.int b), (.int x5), (.ref 80)])) (w1 := w) rfl rfl ?_
      refine s_i (pc1 := 105) (ls1 := [some (.ref 65), some (.long x), none, some (.int a), some (.int b)]) (st1 := [(.ref 80)]) rfl rfl fun x7 e8 => ?_
      have e8 : x7 = x5 + b := e8
      have e8t : x7.toInt = x5.toInt + b.toInt := by rw [e8]; exact n_add (by omega) (by omega)
      have ixe : x7.toInt.toNat = 6 * a.toInt.toNat + b.toInt.toNat := by omega
      refine aw_step (f1 := (106, [some (.ref 65), some (.long x), none, some (.int a), some (.int b)], [(.ref 65), (.int x7), (.ref 80)])) (w1 := w) rfl rfl ?_
      refine s_gr 77 J 109 rfl rfl rfl rfl rfl rfl ?_
      refine aw_step (f1 := (110, [some (.ref 65), some (.long x), none, some (.int a), some (.int b)], [(.ref 65), (.ref 77), (.int x7), (.ref 80)])) (w1 := w) rfl rfl ?_
      refine s_gr 79 J 113 rfl rfl rfl rfl rfl rfl ?_
      refine aw_step (f1 := (115, [some (.ref 65), some (.long x), none, some (.int a), some (.int b)], [(.int b), (.ref 79), (.ref 77), (.int x7), (.ref 80)])) (w1 := w) rfl rfl ?_
      refine s_ia J 116 rfl rfl rfl rfl (by omega) (by omega) fun x9 x9a x9b x9f => ?_
      have x9v : x9.toInt = rI w 79 b.toInt.toNat := by rw [← rI_of x9f]
      have plb : x9.toInt = rI wb 79 b.toInt.toNat := by rw [x9v]; exact O.rIe (by decide)
      refine s_ia J 117 rfl rfl rfl rfl (by omega) (by omega) fun x10 x10a x10b x10f => ?_
      have x10v : x10.toInt = rI w 77 x9.toInt.toNat := by rw [← rI_of x10f]
      have vle : x10.toInt = rI wb 77 (rI wb 79 b.toInt.toNat).toNat := by rw [x10v, plb]; exact O.rIe (by decide)
      refine s_is J 118 rfl rfl rfl rfl (by omega) (by omega) (by omega) (by omega) fun w11 J12 w11e => ?_
      have w11f := rI_st J.1 (p := 80) (j := x7.toInt.toNat) rfl (by omega) w11e
      refine aw_step (f1 := (121, [some (.ref 65), some (.long x), none, some (.int a), some (.int (b + Int32.ofInt 1))], [])) (w1 := w11) rfl rfl ?_
      obtain ⟨x13, x13e⟩ : ∃ z, z = (b + Int32.ofInt 1) := ⟨_, rfl⟩
      have x13t : x13.toInt = b.toInt + (1) := by rw [x13e]; exact n_add (y := Int32.ofInt (1)) (by show _ ≤ _ + (1 : Int); omega) (by show _ + (1 : Int) ≤ _; omega)
      rw [← x13e]
      refine aw_step (f1 := (85, [some (.ref 65), some (.long x), none, some (.int a), some (.int x13)], [])) (w1 := w11) rfl rfl ?_
      refine ih w11 x13 (by omega) (by omega) (by omega) J12 (O.trans w11f.1) (fun q hq => ?_) (fun q hq => ?_)
      · by_cases e : q = b.toInt.toNat
        · rw [e]
          have g := w11f.2.1
          rw [ixe] at g
          rw [g]
          exact vle
        · have g := w11f.2.2 (6 * a.toInt.toNat + q) (by rw [ixe]; omega)
          rw [g]
          exact F q (by omega)
      · rw [w11f.2.2 q (by rw [ixe]; omega)]
        exact G q hq
theorem f_leA {d m : Nat} {w00 wq : am_W} {V : Nat → Int} {L : Int} (R00 : RMs wq V) (I0 : ab_inv ab_TT ab_sets wq) (lr : lrV V L (rL wq 74)) (x : Int64) (hm5 : m ≤ 5) (hmx : m = cnt (n64 x) 64) (hMq : fI wq 65 28 = m) (PLq : plE V (n64 x) (cnt (n64 x) 64) (rI wq 79)) (hpl : ∀ q, q ≤ m → 0 ≤ rI wq 79 q ∧ rI wq 79 q < szV V) (hld : ∀ q, q ≤ m → (((rI wq 79 q).toNat : Nat) : Int) < szV V ∧ V (40 + (rI wq 79 q).toNat) ≠ 126) : ∀ (n : Nat) (w : am_W) (a : Int32) (o4 : Option Value), ((m : Int) + 1 - a.toInt).toNat < n → 0 ≤ a.toInt → a.toInt ≤ m + 1 → ab_J ab_TT ab_sets ab_WR w00 w → only [77, 80] wq w → (∀ i j, i < a.toInt.toNat → j ≤ m → dsV V L (rI wq 79 i).toNat (rI wq 79 j).toNat (nn (rI w 80 (6 * i + j)))) → (∀ i, i < a.toInt.toNat → satV V L (rI wq 79 i).toNat) → aw none (d + 2) 153 (fun r w1 => r = none ∧ ab_J ab_TT ab_sets ab_WR w00 w1 ∧ fI w1 65 28 = cnt (n64 x) 64 ∧ plE V (n64 x) (cnt (n64 x) 64) (rI w1 79) ∧ bmV V L (cnt (n64 x) 64) (rI w1 79) (rI w1 80) ∧ ∀ a, a ≤ cnt (n64 x) 64 → satV V L (rI w1 79 a).toNat) (64, [some (.ref 65), some (.long x), none, some (.int a), o4], []) w := by
  intro n
  induction n with
  | zero => intro w a o4 p; omega
  | succ n ih =>
    intro w a o4 p1 p2 p3 J O F T
    have M2 : fI w 65 28 = m := by rw [O.fIe (by decide)]; exact hMq
    have szm := szM_in J.1
    have hsz : szM w = szV V := by rw [← R00.sz]; exact O.sz (by decide)
    refine aw_step (f1 := (65, [some (.ref 65), some (.long x), none, some (.int a), o4], [(.int a)])) (w1 := w) rfl rfl ?_
    refine aw_step (f1 := (66, [some (.ref 65), some (.long x), none, some (.int a), o4], [(.ref 65), (.int a)])) (w1 := w) rfl rfl ?_
    refine s_gi J 69 rfl rfl rfl rfl rfl rfl fun x1 x1a x1b x1f => ?_
    have x1v : x1.toInt = fI w 65 28 := by rw [← fI_of x1f]
    refine s_ic 130 72 rfl rfl rfl (fun (h2 : x1.toInt < a.toInt) => ?_) (fun (h2 : ¬ (x1.toInt < a.toInt)) => ?_)
    · --
      refine aw_ret (v := none) rfl rfl ?_
      have am1 : a.toInt.toNat = m + 1 := by omega
      rw [am1] at F T
      have r79 : rI w 79 = rI wq 79 := by funext j; exact O.rIe (by decide)
      rw [← hmx]
      refine ⟨rfl, J, M2, by rw [r79, hmx]; exact PLq, ?_, ?_⟩
      · rw [r79]
        exact fun i j hi hj => F i j (by omega) hj
      · rw [r79]
        exact fun i hi => T i (by omega)
    · --
      refine aw_step (f1 := (73, [some (.ref 65), some (.long x), none, some (.int a), o4], [(.ref 65)])) (w1 := w) rfl rfl ?_
      refine aw_step (f1 := (74, [some (.ref 65), some (.long x), none, some (.int a), o4], [(.ref 65), (.ref 65)])) (w1 := w) rfl rfl ?_
      refine s_gr 79 J 77 rfl rfl rfl rfl rfl rfl ?_
      refine aw_step (f1 := (78, [some (.ref 65), some (.long x), none, some (.int a), o4], [(.int a), (.ref 79), (.ref 65)])) (w1 := w) rfl rfl ?_
      refine s_ia J 79 rfl rfl rfl rfl (by omega) (by omega) fun x3 x3a x3b x3f => ?_
      have x3v : x3.toInt = rI w 79 a.toInt.toNat := by rw [← rI_of x3f]
      have pla : x3.toInt = rI wq 79 a.toInt.toNat := by rw [x3v]; exact O.rIe (by decide)
      have plr := hpl a.toInt.toNat (by omega)
      refine s_cv (z := 142) (p := 65) (as := [(.int x3)]) (st1 := []) J 82 rfl rfl rfl rfl rfl rfl rfl rfl (Nat.le_of_ble_eq_true rfl) (Nat.le_of_ble_eq_true rfl) (q_findFar x3 ⟨by omega, by omega⟩ J.1) ?_
      rintro _ w4 ⟨rfl, J5c, w4o, w4p⟩
      have J5 := J.trans J5c
      refine ⟨am_len2 J J5c, ?_⟩
      show aw none _ 153 _ (82, [some (.ref 65), some (.long x), none, some (.int a), o4], []) w4
      refine s_i (pc1 := 83) (ls1 := [some (.ref 65), some (.long x), none, some (.int a), o4]) (st1 := []) rfl rfl fun x6 e7 => ?_
      have e7t : x6.toInt = 0 := by rw [e7]; rfl
      refine aw_step (f1 := (85, [some (.ref 65), some (.long x), none, some (.int a), some (.int x6)], [])) (w1 := w4) rfl rfl ?_
      have fp := w4p
      have lrw : lrV V L (rL w 74) := fun p q h => by rw [O.rLe (by decide)]; exact lr p q h
      rw [hsz, pla] at fp
      have la := hld a.toInt.toNat (by omega)
      have dm := fPost_V (by omega) la lrw fp
      have hr : ∀ j : Nat, j < 36 → rI w4 77 j = 100000 ∨ (0 ≤ rI w4 77 j ∧ rI w4 77 j < 36) := fun j hj => by have := fp.1 j hj; omega
      refine f_leB (m := m) (wb := w4) x a hm5 ⟨by omega, by omega⟩ (by rw [w4o.fIe (by decide)]; exact M2) (fun w9 b9 J9 O9 F9 G9 => ?_) 7 w4 x6 (by omega) (by omega) (by omega) J5 only.rf (fun q hq => by omega) (fun q _ => rfl)
      refine aw_step (f1 := (127, [some (.ref 65), some (.long x), none, some (.int (a + Int32.ofInt 1)), some (.int b9)], [])) (w1 := w9) rfl rfl ?_
      obtain ⟨zx1, zx1e⟩ : ∃ z, z = (a + Int32.ofInt 1) := ⟨_, rfl⟩
      have zx1t : zx1.toInt = a.toInt + (1) := by rw [zx1e]; exact n_add (y := Int32.ofInt (1)) (by show _ ≤ _ + (1 : Int); omega) (by show _ + (1 : Int) ≤ _; omega)
      rw [← zx1e]
      refine aw_step (f1 := (64, [some (.ref 65), some (.long x), none, some (.int zx1), some (.int b9)], [])) (w1 := w9) rfl rfl ?_
      have O99 : only [77, 80] wq w9 := (O.trans (oc w4o (by decide))).trans (oc O9 (by decide))
      have r9 : ∀ i j, i < a.toInt.toNat → j ≤ m → rI w9 80 (6 * i + j) = rI w 80 (6 * i + j) := fun i j hi hj => by
        rw [G9 (6 * i + j) (by omega)]
        exact w4o.rIe (by decide)
      have v9 : ∀ j, j ≤ m → rI w9 80 (6 * a.toInt.toNat + j) = rI w4 77 (rI wq 79 j).toNat := fun j hj => by
        rw [F9 j hj, w4o.rIe (p := 79) (by decide), O.rIe (p := 79) (by decide)]
      refine ih w9 zx1 _ (by omega) (by omega) (by omega) J9 O99 (fun i j hi hj => ?_) (fun i hi => ?_)
      · by_cases e : i = a.toInt.toNat
        · rw [e, v9 j hj]
          have q := hpl j hj
          exact ds_dm dm hr (by omega)
        · rw [r9 i j (by omega) hj]
          exact F i j (by omega) hj
      · by_cases e : i = a.toInt.toNat
        · rw [e]; exact dm_sat dm hr
        · exact T i (by omega)
theorem f_leF {d : Nat} {w00 : am_W} {V : Nat → Int} {L : Int} (R00 : RMs w00 V) (I0 : ab_inv ab_TT ab_sets w00) (hh : 0 ≤ V 2 ∧ V 2 < szV V) (hhl : V (40 + (V 2).toNat) ≠ 126) (x : Int64) (sx : stV V (n64 x)) (hx5 : cnt (n64 x) 64 ≤ 5) : ∀ (n : Nat) (w : am_W) (c : Int32) (o4 : Option Value), (szV V - c.toInt).toNat < n → 0 ≤ c.toInt → c.toInt ≤ szV V → ab_J ab_TT ab_sets ab_WR w00 w → lrV V L (rL w 74) → fI w 65 28 = cnt (n64 x) c.toInt.toNat → (∀ k, k < cnt (n64 x) c.toInt.toNat → (0 ≤ rI w 79 k ∧ rI w 79 k < c.toInt) ∧ bt (n64 x) (rI w 79 k).toNat = 1 ∧ cnt (n64 x) (rI w 79 k).toNat = k) → aw none (d + 2) 153 (fun r w1 => r = none ∧ ab_J ab_TT ab_sets ab_WR w00 w1 ∧ fI w1 65 28 = cnt (n64 x) 64 ∧ plE V (n64 x) (cnt (n64 x) 64) (rI w1 79) ∧ bmV V L (cnt (n64 x) 64) (rI w1 79) (rI w1 80) ∧ ∀ a, a ≤ cnt (n64 x) 64 → satV V L (rI w1 79 a).toNat) (7, [some (.ref 65), some (.long x), none, some (.int c), o4], []) w := by
  intro n
  induction n with
  | zero => intro w c o4 p; omega
  | succ n ih =>
    intro w c o4 p1 p2 p3 J lrw M2 F
    have R := R00.wr I0 J
    have szm := szM_in J.1
    have hsz := R.sz
    have r2 := R.f2
    have cle := cnt_le (n64 x) c.toInt.toNat
    have cmo := cnt_mono (n64 x) (show c.toInt.toNat ≤ 64 by omega)
    refine aw_step (f1 := (8, [some (.ref 65), some (.long x), none, some (.int c), o4], [(.int c)])) (w1 := w) rfl rfl ?_
    refine aw_step (f1 := (9, [some (.ref 65), some (.long x), none, some (.int c), o4], [(.ref 65), (.int c)])) (w1 := w) rfl rfl ?_
    refine s_cv (z := 113) (p := 65) (as := []) (st1 := [(.int c)]) J 12 rfl rfl rfl rfl rfl rfl rfl rfl (Nat.le_of_ble_eq_true rfl) (Nat.le_of_ble_eq_true rfl) (q_cells J.1) ?_
    rintro _ _ ⟨rfl, x1, rfl, x1t⟩
    refine ⟨rfl, ?_⟩
    show aw none _ 153 _ (12, [some (.ref 65), some (.long x), none, some (.int c), o4], [(.int x1), (.int c)]) w
    have x1s := szM_in J.1
    refine s_ic 49 15 rfl rfl rfl (fun (h2 : x1.toInt ≤ c.toInt) => ?_) (fun (h2 : ¬ (x1.toInt ≤ c.toInt)) => ?_)
    · --
      refine aw_step (f1 := (50, [some (.ref 65), some (.long x), none, some (.int c), o4], [(.ref 65)])) (w1 := w) rfl rfl ?_
      refine s_gr 79 J 53 rfl rfl rfl rfl rfl rfl ?_
      refine aw_step (f1 := (54, [some (.ref 65), some (.long x), none, some (.int c), o4], [(.ref 65), (.ref 79)])) (w1 := w) rfl rfl ?_
      refine s_gi J 57 rfl rfl rfl rfl rfl rfl fun x3 x3a x3b x3f => ?_
      have x3v : x3.toInt = fI w 65 28 := by rw [← fI_of x3f]
      refine aw_step (f1 := (58, [some (.ref 65), some (.long x), none, some (.int c), o4], [(.ref 65), (.int x3), (.ref 79)])) (w1 := w) rfl rfl ?_
      refine s_gi J 61 rfl rfl rfl rfl rfl rfl fun x4 x4a x4b x4f => ?_
      have x4v : x4.toInt = fI w 65 3 := by rw [← fI_of x4f]
      --
      refine s_is J 62 rfl rfl rfl rfl (by omega) (by omega) (by omega) (by omega) fun w5 J6 w5e => ?_
      have w5f := rI_st J.1 (p := 79) (j := x3.toInt.toNat) rfl (by omega) w5e
      refine s_i (pc1 := 63) (ls1 := [some (.ref 65), some (.long x), none, some (.int c), o4]) (st1 := []) rfl rfl fun x7 e8 => ?_
      have e8t : x7.toInt = 0 := by rw [e8]; rfl
      refine aw_step (f1 := (64, [some (.ref 65), some (.long x), none, some (.int x7), o4], [])) (w1 := w5) rfl rfl ?_
      have cz : cnt (n64 x) c.toInt.toNat = cnt (n64 x) 64 := by
        have e := cnt_top (n := n64 x) (m := c.toInt.toNat) (bt_lt fun j hj => by have := (sx j hj).1; omega) (64 - c.toInt.toNat)
        rw [show c.toInt.toNat + (64 - c.toInt.toNat) = 64 by omega] at e
        exact e.symm
      have ixe : x3.toInt.toNat = cnt (n64 x) 64 := by omega
      have g1 := w5f.2.1
      have g2 := w5f.2.2
      rw [ixe] at g1 g2
      have PL : plE V (n64 x) (cnt (n64 x) 64) (rI w5 79) := by
        refine ⟨fun k hk => ?_, ?_⟩
        · rw [g2 k (by omega)]
          obtain ⟨a1, a2, a3⟩ := F k (by omega)
          exact ⟨by omega, a2, a3⟩
        · rw [g1]; omega
      refine f_leA (m := cnt (n64 x) 64) (wq := w5) (R00.wr I0 J6) J6.1 (fun p q h => by rw [w5f.1.rLe (by decide)]; exact lrw p q h) x hx5 rfl (by rw [w5f.1.fIe (by decide)]; omega) PL (fun q hq => ?_) (fun q hq => ?_) 7 w5 x7 _ (by omega) (by omega) (by omega) J6 only.rf (fun i j hi => by omega) (fun i hi => by omega)
      · by_cases e : q = cnt (n64 x) 64
        · rw [e, PL.2]; omega
        · exact (PL.1 q (by omega)).1
      · by_cases e : q = cnt (n64 x) 64
        · rw [e, PL.2]; exact ⟨by omega, hhl⟩
        · obtain ⟨a1, a2, a3⟩ := PL.1 q (by omega)
          exact sx _ a2
    · --
      have cm := cnt_mono (n64 x) (show c.toInt.toNat + 1 ≤ 64 by omega)
      have bs0 := bt_s (n64 x) c.toInt.toNat
      refine aw_step (f1 := (16, [some (.ref 65), some (.long x), none, some (.int c), o4], [(.long x)])) (w1 := w) rfl rfl ?_
      refine aw_step (f1 := (17, [some (.ref 65), some (.long x), none, some (.int c), o4], [(.int c), (.long x)])) (w1 := w) rfl rfl ?_
      refine s_cs (z := 110) (as := [(.long x), (.int c)]) (st1 := []) 20 rfl rfl rfl rfl rfl rfl (Nat.le_of_ble_eq_true rfl) (Nat.le_of_ble_eq_true rfl) (Nat.le_of_ble_eq_true rfl) (q_has x c (by omega) (by omega)) ?_
      rintro _ _ ⟨rfl, x9, rfl, x9t⟩
      refine ⟨rfl, ?_⟩
      show aw none _ 153 _ (20, [some (.ref 65), some (.long x), none, some (.int c), o4], [(.int x9)]) w
      have x9l := bt_le (n64 x) c.toInt.toNat
      refine s_if 43 23 rfl rfl rfl (fun (h10 : x9.toInt = 0) => ?_) (fun (h10 : ¬ (x9.toInt = 0)) => ?_)
      · --
        refine aw_step (f1 := (46, [some (.ref 65), some (.long x), none, some (.int (c + Int32.ofInt 1)), o4], [])) (w1 := w) rfl rfl ?_
        obtain ⟨x11, x11e⟩ : ∃ z, z = (c + Int32.ofInt 1) := ⟨_, rfl⟩
        have x11t : x11.toInt = c.toInt + (1) := by rw [x11e]; exact n_add (y := Int32.ofInt (1)) (by show _ ≤ _ + (1 : Int); omega) (by show _ + (1 : Int) ≤ _; omega)
        rw [← x11e]
        refine aw_step (f1 := (7, [some (.ref 65), some (.long x), none, some (.int x11), o4], [])) (w1 := w) rfl rfl ?_
        have bs := bt_s (n64 x) c.toInt.toNat
        rw [show c.toInt.toNat + 1 = x11.toInt.toNat by omega] at bs
        exact ih w x11 _ (by omega) (by omega) (by omega) J lrw (by omega) (fun k hk => by
          obtain ⟨a1, a2, a3⟩ := F k (by omega)
          exact ⟨by omega, a2, a3⟩)
      · --
        refine aw_step (f1 := (24, [some (.ref 65), some (.long x), none, some (.int c), o4], [(.ref 65)])) (w1 := w) rfl rfl ?_
        refine s_gr 79 J 27 rfl rfl rfl rfl rfl rfl ?_
        refine aw_step (f1 := (28, [some (.ref 65), some (.long x), none, some (.int c), o4], [(.ref 65), (.ref 79)])) (w1 := w) rfl rfl ?_
        refine s_gi J 31 rfl rfl rfl rfl rfl rfl fun x12 x12a x12b x12f => ?_
        have x12v : x12.toInt = fI w 65 28 := by rw [← fI_of x12f]
        refine aw_step (f1 := (32, [some (.ref 65), some (.long x), none, some (.int c), o4], [(.int c), (.int x12), (.ref 79)])) (w1 := w) rfl rfl ?_
        --
        refine s_is J 33 rfl rfl rfl rfl (by omega) (by omega) (by omega) (by omega) fun w13 J14 w13e => ?_
        have w13f := rI_st J.1 (p := 79) (j := x12.toInt.toNat) rfl (by omega) w13e
        refine aw_step (f1 := (34, [some (.ref 65), some (.long x), none, some (.int c), o4], [(.ref 65)])) (w1 := w13) rfl rfl ?_
        refine aw_step (f1 := (35, [some (.ref 65), some (.long x), none, some (.int c), o4], [(.ref 65), (.ref 65)])) (w1 := w13) rfl rfl ?_
        refine s_gi J14 38 rfl rfl rfl rfl rfl rfl fun x15 x15a x15b x15f => ?_
        have x15v : x15.toInt = fI w 65 28 := by rw [← fI_of x15f, w13f.1.fIe (by decide)]
        refine s_i (pc1 := 39) (ls1 := [some (.ref 65), some (.long x), none, some (.int c), o4]) (st1 := [(.int x15), (.ref 65)]) rfl rfl fun x16 e17 => ?_
        have e17t : x16.toInt = 1 := by rw [e17]; rfl
        refine s_i (pc1 := 40) (ls1 := [some (.ref 65), some (.long x), none, some (.int c), o4]) (st1 := [(.ref 65)]) rfl rfl fun x18 e19 => ?_
        have e19 : x18 = x15 + x16 := e19
        have e19t : x18.toInt = x15.toInt + x16.toInt := by rw [e19]; exact n_add (by omega) (by omega)
        refine s_pi J14 43 rfl rfl rfl rfl rfl rfl rfl (by omega) (by omega) fun w20 J21 w20e => ?_
        have w20f := fv_st J14.1 (p := 65) (kf := 28) rfl (by decide) w20e
        refine aw_step (f1 := (46, [some (.ref 65), some (.long x), none, some (.int (c + Int32.ofInt 1)), o4], [])) (w1 := w20) rfl rfl ?_
        obtain ⟨x22, x22e⟩ : ∃ z, z = (c + Int32.ofInt 1) := ⟨_, rfl⟩
        have x22t : x22.toInt = c.toInt + (1) := by rw [x22e]; exact n_add (y := Int32.ofInt (1)) (by show _ ≤ _ + (1 : Int); omega) (by show _ + (1 : Int) ≤ _; omega)
        rw [← x22e]
        refine aw_step (f1 := (7, [some (.ref 65), some (.long x), none, some (.int x22), o4], [])) (w1 := w20) rfl rfl ?_
        have bs := bt_s (n64 x) c.toInt.toNat
        rw [show c.toInt.toNat + 1 = x22.toInt.toNat by omega] at bs
        have ixe : x12.toInt.toNat = cnt (n64 x) c.toInt.toNat := by omega
        have g1 := w13f.2.1
        have g2 := w13f.2.2
        rw [ixe] at g1 g2
        refine ih w20 x22 _ (by omega) (by omega) (by omega) J21 (fun p q h => by rw [w20f.1.rLe (by decide), w13f.1.rLe (by decide)]; exact lrw p q h) (by rw [fI_of w20f.2.1]; omega) (fun k hk => ?_)
        rw [w20f.1.rIe (by decide)]
        by_cases e : k = cnt (n64 x) c.toInt.toNat
        · rw [e, g1]
          exact ⟨by omega, by omega, rfl⟩
        · rw [g2 k e]
          obtain ⟨a1, a2, a3⟩ := F k (by omega)
          exact ⟨by omega, a2, a3⟩
theorem f_layErrands {d : Nat} {w : am_W} {V : Nat → Int} {L : Int} (R : RMs w V) (hh : 0 ≤ V 2 ∧ V 2 < szV V) (hhl : V (40 + (V 2).toNat) ≠ 126) (lr : lrV V L (rL w 74)) (x : Int64) (sx : stV V (n64 x)) (hx5 : cnt (n64 x) 64 ≤ 5) (I : ab_inv ab_TT ab_sets w) : aw none (d + 2) 153 (fun r w1 => r = none ∧ ab_J ab_TT ab_sets ab_WR w w1 ∧ fI w1 65 28 = cnt (n64 x) 64 ∧ plE V (n64 x) (cnt (n64 x) 64) (rI w1 79) ∧ bmV V L (cnt (n64 x) 64) (rI w1 79) (rI w1 80) ∧ ∀ a, a ≤ cnt (n64 x) 64 → satV V L (rI w1 79 a).toNat) (0, am_entry 153 [.ref 65, .long x], []) w := by
  have J : ab_J ab_TT ab_sets ab_WR w w := ⟨I, ab_fr.rf⟩
  have szm := szM_in I
  have hsz := R.sz
  show aw none (d + 2) 153 _ (0, [some (.ref 65), some (.long x), none, none, none], []) w
  refine aw_step (f1 := (1, [some (.ref 65), some (.long x), none, none, none], [(.ref 65)])) (w1 := w) rfl rfl ?_
  refine s_i (pc1 := 2) (ls1 := [some (.ref 65), some (.long x), none, none, none]) (st1 := [(.ref 65)]) rfl rfl fun x1 e2 => ?_
  have e2t : x1.toInt = 0 := by rw [e2]; rfl
  refine s_pi J 5 rfl rfl rfl rfl rfl rfl rfl (by omega) (by omega) fun w3 J4 w3e => ?_
  have w3f := fv_st J.1 (p := 65) (kf := 28) rfl (by decide) w3e
  refine s_i (pc1 := 6) (ls1 := [some (.ref 65), some (.long x), none, none, none]) (st1 := []) rfl rfl fun x5 e6 => ?_
  have e6t : x5.toInt = 0 := by rw [e6]; rfl
  refine aw_step (f1 := (7, [some (.ref 65), some (.long x), none, some (.int x5), none], [])) (w1 := w3) rfl rfl ?_
  exact f_leF R I hh hhl x sx hx5 37 w3 x5 _ (by omega) (by omega) (by omega) J4 (fun p q h => by rw [w3f.1.rLe (by decide)]; exact lr p q h) (by rw [fI_of w3f.2.1, show x5.toInt.toNat = 0 by omega]; show _ = ((0 : Nat) : Int); omega) (fun k hk => by rw [show x5.toInt.toNat = 0 by omega] at hk; have hk : k < 0 := hk; omega)
theorem f_sorL {d m : Nat} {w : am_W} {g : Nat → Nat} (hm : m ≤ 5) (M2 : fI w 65 28 = m) (hg : ∀ i, i < m → g i < m) (hrow : ∀ i, i < m → rI w 81 i = g i) (hbm : ∀ i j, i ≤ m → j ≤ m → 0 ≤ rI w 80 (6 * i + j) ∧ rI w 80 (6 * i + j) ≤ 100000) (J : ab_J ab_TT ab_sets ab_WR w w) : ∀ (n : Nat) (at_ sm_ k : Int32), ((m : Int) - k.toInt).toNat < n → 0 ≤ k.toInt → k.toInt ≤ m → at_.toInt = pvo m g k.toInt.toNat → sm_.toInt = ss m (rI w 80) g k.toInt.toNat → aw none (d + 1) 154 (fun r w1 => w = w1 ∧ ∃ z : Int32, r = some (.int z) ∧ z.toInt = SS m (rI w 80) g) (9, [some (.ref 65), some (.int at_), some (.int sm_), some (.int k)], []) w := by
  intro n
  induction n with
  | zero => intro at_ sm_ k p; omega
  | succ n ih =>
    intro at_ sm_ k p1 p2 p3 H1 H2
    have pk := pvo_le hg (show k.toInt.toNat ≤ m by omega)
    have hsb := ss_b (m := m) (a := rI w 80) (B := 100000) hg hbm (k := k.toInt.toNat) (by omega)
    refine aw_step (f1 := (10, [some (.ref 65), some (.int at_), some (.int sm_), some (.int k)], [(.int k)])) (w1 := w) rfl rfl ?_
    refine aw_step (f1 := (11, [some (.ref 65), some (.int at_), some (.int sm_), some (.int k)], [(.ref 65), (.int k)])) (w1 := w) rfl rfl ?_
    refine s_gi J 14 rfl rfl rfl rfl rfl rfl fun x1 x1a x1b x1f => ?_
    have x1v : x1.toInt = fI w 65 28 := by rw [← fI_of x1f]
    refine s_ic 49 17 rfl rfl rfl (fun (h2 : x1.toInt ≤ k.toInt) => ?_) (fun (h2 : ¬ (x1.toInt ≤ k.toInt)) => ?_)
    · --
      have km : k.toInt.toNat = m := by omega
      rw [km] at H1 H2 hsb
      have pm := pvo_le hg (Nat.le_refl m)
      refine aw_step (f1 := (50, [some (.ref 65), some (.int at_), some (.int sm_), some (.int k)], [(.int sm_)])) (w1 := w) rfl rfl ?_
      refine aw_step (f1 := (51, [some (.ref 65), some (.int at_), some (.int sm_), some (.int k)], [(.ref 65), (.int sm_)])) (w1 := w) rfl rfl ?_
      refine s_gr 80 J 54 rfl rfl rfl rfl rfl rfl ?_
      refine s_i (pc1 := 56) (ls1 := [some (.ref 65), some (.int at_), some (.int sm_), some (.int k)]) (st1 := [(.ref 80), (.int sm_)]) rfl rfl fun x3 e4 => ?_
      have e4t : x3.toInt = 6 := by rw [e4]; rfl
      refine aw_step (f1 := (57, [some (.ref 65), some (.int at_), some (.int sm_), some (.int k)], [(.int at_), (.int x3), (.ref 80), (.int sm_)])) (w1 := w) rfl rfl ?_
      refine s_i (pc1 := 58) (ls1 := [some (.ref 65), some (.int at_), some (.int sm_), some (.int k)]) (st1 := [(.ref 80), (.int sm_)]) rfl rfl fun x5 e6 => ?_
      have e6 : x5 = x3 * at_ := e6
      have e6t : x5.toInt = 6 * at_.toInt := by rw [e6, n_mul (by rw [e4t]; omega) (by rw [e4t]; omega), e4t]
      refine aw_step (f1 := (59, [some (.ref 65), some (.int at_), some (.int sm_), some (.int k)], [(.ref 65), (.int x5), (.ref 80), (.int sm_)])) (w1 := w) rfl rfl ?_
      refine s_gi J 62 rfl rfl rfl rfl rfl rfl fun x7 x7a x7b x7f => ?_
      have x7v : x7.toInt = fI w 65 28 := by rw [← fI_of x7f]
      refine s_i (pc1 := 63) (ls1 := [some (.ref 65), some (.int at_), some (.int sm_), some (.int k)]) (st1 := [(.ref 80), (.int sm_)]) rfl rfl fun x8 e9 => ?_
      have e9 : x8 = x5 + x7 := e9
      have e9t : x8.toInt = x5.toInt + x7.toInt := by rw [e9]; exact n_add (by omega) (by omega)
      --
      refine s_ia J 64 rfl rfl rfl rfl (by omega) (by omega) fun x10 x10a x10b x10f => ?_
      have x10v : x10.toInt = rI w 80 x8.toInt.toNat := by rw [← rI_of x10f]
      have hle : x10.toInt = rI w 80 (6 * pvo m g m + m) := by rw [x10v, show x8.toInt.toNat = 6 * pvo m g m + m by omega]
      refine s_i (pc1 := 65) (ls1 := [some (.ref 65), some (.int at_), some (.int sm_), some (.int k)]) (st1 := []) rfl rfl fun x11 e12 => ?_
      have e12 : x11 = sm_ + x10 := e12
      have e12t : x11.toInt = sm_.toInt + x10.toInt := by rw [e12]; exact n_add (by omega) (by omega)
      refine aw_ret (v := some (.int x11)) rfl rfl ?_
      exact ⟨rfl, x11, rfl, by unfold SS; omega⟩
    · --
      refine aw_step (f1 := (18, [some (.ref 65), some (.int at_), some (.int sm_), some (.int k)], [(.int sm_)])) (w1 := w) rfl rfl ?_
      refine aw_step (f1 := (19, [some (.ref 65), some (.int at_), some (.int sm_), some (.int k)], [(.ref 65), (.int sm_)])) (w1 := w) rfl rfl ?_
      refine s_gr 80 J 22 rfl rfl rfl rfl rfl rfl ?_
      refine s_i (pc1 := 24) (ls1 := [some (.ref 65), some (.int at_), some (.int sm_), some (.int k)]) (st1 := [(.ref 80), (.int sm_)]) rfl rfl fun x13 e14 => ?_
      have e14t : x13.toInt = 6 := by rw [e14]; rfl
      refine aw_step (f1 := (25, [some (.ref 65), some (.int at_), some (.int sm_), some (.int k)], [(.int at_), (.int x13), (.ref 80), (.int sm_)])) (w1 := w) rfl rfl ?_
      refine s_i (pc1 := 26) (ls1 := [some (.ref 65), some (.int at_), some (.int sm_), some (.int k)]) (st1 := [(.ref 80), (.int sm_)]) rfl rfl fun x15 e16 => ?_
      have e16 : x15 = x13 * at_ := e16
      have e16t : x15.toInt = 6 * at_.toInt := by rw [e16, n_mul (by rw [e14t]; omega) (by rw [e14t]; omega), e14t]
      refine aw_step (f1 := (27, [some (.ref 65), some (.int at_), some (.int sm_), some (.int k)], [(.ref 65), (.int x15), (.ref 80), (.int sm_)])) (w1 := w) rfl rfl ?_
      refine s_gr 81 J 30 rfl rfl rfl rfl rfl rfl ?_
      refine aw_step (f1 := (31, [some (.ref 65), some (.int at_), some (.int sm_), some (.int k)], [(.int k), (.ref 81), (.int x15), (.ref 80), (.int sm_)])) (w1 := w) rfl rfl ?_
      refine s_ia J 32 rfl rfl rfl rfl (by omega) (by omega) fun x17 x17a x17b x17f => ?_
      have x17v : x17.toInt = rI w 81 k.toInt.toNat := by rw [← rI_of x17f]
      have hrk : x17.toInt = g k.toInt.toNat := by rw [x17v]; exact hrow _ (by omega)
      have gk := hg k.toInt.toNat (by omega)
      refine s_i (pc1 := 33) (ls1 := [some (.ref 65), some (.int at_), some (.int sm_), some (.int k)]) (st1 := [(.ref 80), (.int sm_)]) rfl rfl fun x18 e19 => ?_
      have e19 : x18 = x15 + x17 := e19
      have e19t : x18.toInt = x15.toInt + x17.toInt := by rw [e19]; exact n_add (by omega) (by omega)
      --
      refine s_ia J 34 rfl rfl rfl rfl (by omega) (by omega) fun x20 x20a x20b x20f => ?_
      have x20v : x20.toInt = rI w 80 x18.toInt.toNat := by rw [← rI_of x20f]
      have hle : x20.toInt = rI w 80 (6 * pvo m g k.toInt.toNat + g k.toInt.toNat) := by rw [x20v, show x18.toInt.toNat = 6 * pvo m g k.toInt.toNat + g k.toInt.toNat by omega]
      refine s_i (pc1 := 35) (ls1 := [some (.ref 65), some (.int at_), some (.int sm_), some (.int k)]) (st1 := []) rfl rfl fun x21 e22 => ?_
      have e22 : x21 = sm_ + x20 := e22
      have e22t : x21.toInt = sm_.toInt + x20.toInt := by rw [e22]; exact n_add (by omega) (by omega)
      refine aw_step (f1 := (36, [some (.ref 65), some (.int at_), some (.int x21), some (.int k)], [])) (w1 := w) rfl rfl ?_
      refine aw_step (f1 := (37, [some (.ref 65), some (.int at_), some (.int x21), some (.int k)], [(.ref 65)])) (w1 := w) rfl rfl ?_
      refine s_gr 81 J 40 rfl rfl rfl rfl rfl rfl ?_
      refine aw_step (f1 := (41, [some (.ref 65), some (.int at_), some (.int x21), some (.int k)], [(.int k), (.ref 81)])) (w1 := w) rfl rfl ?_
      refine s_ia J 42 rfl rfl rfl rfl (by omega) (by omega) fun x23 x23a x23b x23f => ?_
      have x23v : x23.toInt = rI w 81 k.toInt.toNat := by rw [← rI_of x23f]
      have hrk2 : x23.toInt = g k.toInt.toNat := by rw [x23v]; exact hrow _ (by omega)
      refine aw_step (f1 := (43, [some (.ref 65), some (.int x23), some (.int x21), some (.int k)], [])) (w1 := w) rfl rfl ?_
      refine aw_step (f1 := (46, [some (.ref 65), some (.int x23), some (.int x21), some (.int (k + Int32.ofInt 1))], [])) (w1 := w) rfl rfl ?_
      obtain ⟨x24, x24e⟩ : ∃ z, z = (k + Int32.ofInt 1) := ⟨_, rfl⟩
      have x24t : x24.toInt = k.toInt + (1) := by rw [x24e]; exact n_add (y := Int32.ofInt (1)) (by show _ ≤ _ + (1 : Int); omega) (by show _ + (1 : Int) ≤ _; omega)
      rw [← x24e]
      refine aw_step (f1 := (9, [some (.ref 65), some (.int x23), some (.int x21), some (.int x24)], [])) (w1 := w) rfl rfl ?_
      refine ih x23 x21 x24 (by omega) (by omega) (by omega) ?_ ?_
      · rw [show x24.toInt.toNat = k.toInt.toNat + 1 by omega]
        show _ = ((g k.toInt.toNat : Nat) : Int)
        omega
      · rw [show x24.toInt.toNat = k.toInt.toNat + 1 by omega]
        show _ = ss m (rI w 80) g k.toInt.toNat + rI w 80 (6 * pvo m g k.toInt.toNat + g k.toInt.toNat)
        omega
theorem f_sor {d m : Nat} {w : am_W} {g : Nat → Nat} (hm : m ≤ 5) (M2 : fI w 65 28 = m) (hg : ∀ i, i < m → g i < m) (hrow : ∀ i, i < m → rI w 81 i = g i) (hbm : ∀ i j, i ≤ m → j ≤ m → 0 ≤ rI w 80 (6 * i + j) ∧ rI w 80 (6 * i + j) ≤ 100000) (I : ab_inv ab_TT ab_sets w) : aw none (d + 1) 154 (fun r w1 => w = w1 ∧ ∃ z : Int32, r = some (.int z) ∧ z.toInt = SS m (rI w 80) g) (0, am_entry 154 [.ref 65], []) w := by
  have J : ab_J ab_TT ab_sets ab_WR w w := ⟨I, ab_fr.rf⟩
  show aw none (d + 1) 154 _ (0, [some (.ref 65), none, none, none], []) w
  refine aw_step (f1 := (1, [some (.ref 65), none, none, none], [(.ref 65)])) (w1 := w) rfl rfl ?_
  refine s_gi J 4 rfl rfl rfl rfl rfl rfl fun x1 x1a x1b x1f => ?_
  have x1v : x1.toInt = fI w 65 28 := by rw [← fI_of x1f]
  refine aw_step (f1 := (5, [some (.ref 65), some (.int x1), none, none], [])) (w1 := w) rfl rfl ?_
  refine s_i (pc1 := 6) (ls1 := [some (.ref 65), some (.int x1), none, none]) (st1 := []) rfl rfl fun x2 e3 => ?_
  have e3t : x2.toInt = 0 := by rw [e3]; rfl
  refine aw_step (f1 := (7, [some (.ref 65), some (.int x1), some (.int x2), none], [])) (w1 := w) rfl rfl ?_
  refine s_i (pc1 := 8) (ls1 := [some (.ref 65), some (.int x1), some (.int x2), none]) (st1 := []) rfl rfl fun x4 e5 => ?_
  have e5t : x4.toInt = 0 := by rw [e5]; rfl
  refine aw_step (f1 := (9, [some (.ref 65), some (.int x1), some (.int x2), some (.int x4)], [])) (w1 := w) rfl rfl ?_
  exact f_sorL hm M2 hg hrow hbm J 6 x1 x2 x4 (by omega) (by omega) (by omega) (by rw [show x4.toInt.toNat = 0 by omega]; show _ = (m : Int); omega) (by rw [show x4.toInt.toNat = 0 by omega]; show _ = (0 : Int); omega)
