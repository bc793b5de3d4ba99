/-! ===== errands: the plan of the class ===== -/
/-- the cells of the set rising, behind them home -/
noncomputable def plE (V : Nat → Int) (x m : Nat) (r : Nat → Int) : Prop := (∀ k, k < m → (0 ≤ r k ∧ r k < szV V) ∧ bt x (r k).toNat = 1 ∧ cnt x (r k).toNat = k) ∧ r m = V 2
theorem cnt_eq {x a b : Nat} (ha : bt x a = 1) (hb : bt x b = 1) (e : cnt x a = cnt x b) : a = b := by
  rcases Nat.lt_trichotomy a b with q | q | q
  · have := cnt_in q ha; omega
  · exact q
  · have := cnt_in q hb; omega
theorem plE.uniq {V : Nat → Int} {x m : Nat} {r s : Nat → Int} (h : plE V x m r) (g : plE V x m s) {k : Nat} (hk : k ≤ m) : s k = r k := by
  by_cases q : k = m
  · rw [q, h.2, g.2]
  · obtain ⟨a1, a2, a3⟩ := h.1 k (by omega)
    obtain ⟨b1, b2, b3⟩ := g.1 k (by omega)
    have := cnt_eq a2 b2 (by omega)
    omega
theorem dsV_ex (V : Nat → Int) (L : Int) (f j : Nat) : ∃ c, dsV V L f j c := by
  by_cases q : wV V L f 36 j
  · obtain ⟨d, d1, d2⟩ := wV_fr q
    exact ⟨d, Or.inr ⟨d, rfl, d1, d2⟩⟩
  · exact ⟨-6, Or.inl ⟨rfl, q⟩⟩
noncomputable def bwC (V : Nat → Int) (L : Int) (pl : Nat → Int) (i : Nat) : Int := Classical.choose (dsV_ex V L (pl (i / 6)).toNat (pl (i % 6)).toNat)
theorem bwC_s {V : Nat → Int} {L : Int} {pl : Nat → Int} {a b : Nat} (hb : b ≤ 5) : dsV V L (pl a).toNat (pl b).toNat (bwC V L pl (6 * a + b)) := by
  have h : dsV V L (pl ((6 * a + b) / 6)).toNat (pl ((6 * a + b) % 6)).toNat (bwC V L pl (6 * a + b)) := Classical.choose_spec (dsV_ex V L (pl ((6 * a + b) / 6)).toNat (pl ((6 * a + b) % 6)).toNat)
  rw [show (6 * a + b) / 6 = a by omega, show (6 * a + b) % 6 = b by omega] at h
  exact h
/-- what the plan says of the best -/
noncomputable def bmD (m : Nat) (bw : Nat → Int) (best : Int) (bo : Nat → Int) : Prop := best = -6 ∨ ∃ g, opE m bw g ∧ best = SS m bw g ∧ ∀ i, i < m → bo i = g i
noncomputable def bwV (V : Nat → Int) (L : Int) (m : Nat) (pl bw : Nat → Int) : Prop := ∀ a b, a ≤ m → b ≤ m → dsV V L (pl a).toNat (pl b).toNat (bw (6 * a + b))
noncomputable def erW (V : Nat → Int) (L : Int) (x : Nat) (i z : Int) : Prop := ∃ (m : Nat) (pl bw : Nat → Int), (m = cnt x 64 ∧ m ≤ 5) ∧ plE V x m pl ∧ bwV V L m pl bw ∧ ((z = -6 ∧ ((∃ a b, a ≤ m ∧ b ≤ m ∧ bw (6 * a + b) = -6) ∨ ∀ g, ¬ pmV m g)) ∨ ((∀ a b, a ≤ m → b ≤ m → bw (6 * a + b) ≠ -6) ∧ ∃ g, opE m bw g ∧ ((i = -1 ∧ z = SS m bw g) ∨ (i ≠ -1 ∧ (0 ≤ i ∧ i < m) ∧ z = pl (g i.toNat)) ∨ (i ≠ -1 ∧ (i < 0 ∨ m ≤ i) ∧ z = -6))))
theorem erW.uniq {V : Nat → Int} {L : Int} {x : Nat} {i a b : Int} (h : erW V L x i a) (g : erW V L x i b) : b = a := by
  obtain ⟨m, pl, bw, ⟨h0, h5⟩, h1, h2, h3⟩ := h
  obtain ⟨n, pk, bv, ⟨g0, g5⟩, g1, g2, g3⟩ := g
  have e : n = m := by omega
  subst e
  have ep : ∀ k, k ≤ n → pk k = pl k := fun k hk => h1.uniq g1 hk
  have eb : ∀ i j, i ≤ n → j ≤ n → bv (6 * i + j) = bw (6 * i + j) := fun i j hi hj => by
    have u := g2 i j hi hj
    rw [ep i hi, ep j hj] at u
    exact (h2 i j hi hj).uniq u
  have key : ∀ {u v : Nat → Int}, (∀ i j, i ≤ n → j ≤ n → u (6 * i + j) = v (6 * i + j)) → ((∃ a b, a ≤ n ∧ b ≤ n ∧ u (6 * a + b) = -6) ∨ ∀ g, ¬ pmV n g) → (∀ a b, a ≤ n → b ≤ n → v (6 * a + b) ≠ -6) → (∃ g, opE n v g ∧ True) → False := by
    intro u v e p q r
    obtain ⟨g, r1, -⟩ := r
    rcases p with ⟨a, b, c1, c2, c3⟩ | p
    · exact q a b c1 c2 (by rw [← e a b c1 c2]; exact c3)
    · exact p g r1.1
  rcases h3 with ⟨h3, h4⟩ | ⟨h3, f, h4, h6⟩ <;> rcases g3 with ⟨g3, g4⟩ | ⟨g3, k, g4, g6⟩
  · omega
  · exact (key (fun i j a b => (eb i j a b).symm) h4 g3 ⟨k, g4, trivial⟩).elim
  · exact (key eb g4 h3 ⟨f, h4, trivial⟩).elim
  · have g4' : opE n bw k := ⟨g4.1, fun h p => by
      have := g4.2 h p
      rw [SS_eq g4.1.1 eb, SS_eq p.1 eb] at this
      exact this⟩
    obtain ⟨u1, u2⟩ := h4.uniq g4'
    have u3 : SS n bv k = SS n bw f := by rw [SS_eq g4.1.1 eb, u1]
    rcases h6 with h6 | ⟨a1, a2, a3⟩ | ⟨a1, a2, a3⟩ <;> rcases g6 with g6 | ⟨c1, c2, c3⟩ | ⟨c1, c2, c3⟩
    · omega
    · omega
    · omega
    · omega
    · rw [a3, c3, u2 i.toNat (by omega), ep _ (by have := h4.1.1 i.toNat (by omega); omega)]
    · omega
    · omega
    · omega
    · omega
noncomputable def errP (V : Nat → Int) (b : Int) (x : Nat) (i z : Int) : Prop := (z = -1 ∧ (b < 0 ∨ 3 < b)) ∨ (z = -2 ∧ (0 ≤ b ∧ b ≤ 3) ∧ ¬ stV V x) ∨ (z = -4 ∧ (0 ≤ b ∧ b ≤ 3) ∧ stV V x ∧ 5 < cnt x 64) ∨ ((0 ≤ b ∧ b ≤ 3) ∧ stV V x ∧ cnt x 64 ≤ 5 ∧ erW V (V (8 + 4 * b.toNat + 0)) x i z)
theorem U_errands {V : Nat → Int} {b i z z2 : Int} {x : Nat} (h : errP V b x i z) (g : errP V b x i z2) : z2 = z := by
  rcases h with h | ⟨h1, h2, h3⟩ | ⟨h1, h2, h3, h4⟩ | ⟨h1, h2, h3, h4⟩ <;> rcases g with g | ⟨g1, g2, g3⟩ | ⟨g1, g2, g3, g4⟩ | ⟨g1, g2, g3, g4⟩
  · omega
  · omega
  · omega
  · omega
  · omega
  · omega
  · exact absurd g3 h3
  · exact absurd g2 h3
  · omega
  · exact absurd h3 g3
  · omega
  · omega
  · omega
  · exact absurd h2 g3
  · omega
  · exact h4.uniq g4
theorem wV_pr {V : Nat → Int} {L : Int} {i j f : Nat} (h : eV V L j i) : ∀ {n : Nat}, wV V L i n f → wV V L j (n + 1) f
  | 0, a => by
    have a : f = i := a
    exact Or.inr ⟨j, rfl, by rw [a]; exact h⟩
  | n + 1, a => by
    rcases a with a | ⟨k, a1, a2⟩
    · exact wV_s (wV_pr h a)
    · exact Or.inr ⟨k, wV_pr h a1, a2⟩
theorem wV_sy {V : Nat → Int} {L : Int} {f : Nat} (hf : (f : Int) < szV V ∧ V (40 + f) ≠ 126) : ∀ {n j : Nat}, wV V L f n j → wV V L j n f
  | 0, j, a => by have a : j = f := a; exact a.symm
  | n + 1, j, a => by
    rcases a with a | ⟨i, a1, a2⟩
    · exact wV_s (wV_sy hf a)
    · exact wV_pr (eV_c a2 (wV_ld hf a1)) (wV_sy hf a1)
theorem wV_tr {V : Nat → Int} {L : Int} {f i : Nat} {n : Nat} (a : wV V L f n i) : ∀ {k j : Nat}, wV V L i k j → wV V L f (n + k) j
  | 0, j, b => by have b : j = i := b; rw [b]; exact a
  | k + 1, j, b => by
    rcases b with b | ⟨c, b1, b2⟩
    · exact wV_s (wV_tr a b)
    · exact Or.inr ⟨c, wV_tr a b1, b2⟩
theorem e_plB {d m : Nat} {Q : Option Value → am_W → Prop} {w00 wb : am_W} (L : Int32) (x y : Int64) (a : Int32) (hm : m ≤ 5) (ha : 0 ≤ a.toInt ∧ a.toInt ≤ m) (hM : fI wb 25 2 = m) (hp : ∀ q, q ≤ m → 0 ≤ rI wb 26 q ∧ rI wb 26 q < 36) (K : ∀ (w : am_W) (b : Int32), ab_J ab_TT ab_sets ab_WR w00 w → only [29] wb w → (∀ q, q ≤ m → rI w 29 (6 * a.toInt.toNat + q) = rI wb 19 (rI wb 26 q).toNat) → (∀ q, (q < 6 * a.toInt.toNat ∨ 6 * a.toInt.toNat + 5 < q) → rI w 29 q = rI wb 29 q) → aw none (d + 1) 30 Q (166, [some (.ref 25), some (.ref 3), some (.ref 18), some (.int L), some (.long x), none, some (.int a), some (.long y), none, some (.int b)], []) w) : ∀ (n : Nat) (w : am_W) (b : Int32), ((m : Int) + 1 - b.toInt).toNat < n → 0 ≤ b.toInt → b.toInt ≤ m + 1 → ab_J ab_TT ab_sets ab_WR w00 w → only [29] wb w → (∀ q : Nat, (q : Int) < b.toInt → rI w 29 (6 * a.toInt.toNat + q) = rI wb 19 (rI wb 26 q).toNat) → (∀ q, (q < 6 * a.toInt.toNat ∨ 6 * a.toInt.toNat + 5 < q) → rI w 29 q = rI wb 29 q) → aw none (d + 1) 30 Q (126, [some (.ref 25), some (.ref 3), some (.ref 18), some (.int L), some (.long x), none, some (.int a), some (.long y), none, some (.int b)], []) w := by
  intro n
  induction n with
  | zero => intro w b p; omega
  | succ n ih =>
    intro w b p1 p2 p3 J O F G
    have M2 : fI w 25 2 = m := by rw [O.fIe (by decide)]; exact hM
    refine aw_step (f1 := (128, [some (.ref 25), some (.ref 3), some (.ref 18), some (.int L), some (.long x), none, some (.int a), some (.long y), none, some (.int b)], [(.int b)])) (w1 := w) rfl rfl ?_
    refine aw_step (f1 := (129, [some (.ref 25), some (.ref 3), some (.ref 18), some (.int L), some (.long x), none, some (.int a), some (.long y), none, some (.int b)], [(.ref 25), (.int b)])) (w1 := w) rfl rfl ?_
    refine s_gi J 132 rfl rfl rfl rfl rfl rfl fun x1 x1a x1b x1f => ?_
    have x1v : x1.toInt = fI w 25 2 := by rw [← fI_of x1f]
    refine s_ic 166 135 rfl rfl rfl (fun (h2 : x1.toInt < b.toInt) => ?_) (fun (h2 : ¬ (x1.toInt < b.toInt)) => ?_)
    · --
      exact K w b J O (fun q hq => F q (by omega)) G
    · --
      refine aw_step (f1 := (136, [some (.ref 25), some (.ref 3), some (.ref 18), some (.int L), some (.long x), none, some (.int a), some (.long y), none, some (.int b)], [(.ref 25)])) (w1 := w) rfl rfl ?_
      refine s_gr 29 J 139 rfl rfl rfl rfl rfl rfl ?_
      refine aw_step (f1 := (141, [some (.ref 25), some (.ref 3), some (.ref 18), some (.int L), some (.long x), none, some (.int a), some (.long y), none, some (.int b)], [(.int a), (.ref 29)])) (w1 := w) rfl rfl ?_
      refine s_i (pc1 := 143) (ls1 := [some (.ref 25), some (.ref 3), some (.ref 18), some (.int L), some (.long x), none, some (.int a), some (.long y), none, some (.int b)]) (st1 := [(.int a), (.ref 29)]) rfl rfl fun x3 e4 => ?_
      have e4t : x3.toInt = 6 := by rw [e4]; rfl
      refine s_i (pc1 := 144) (ls1 := [some (.ref 25), some (.ref 3), some (.ref 18), some (.int L), some (.long x), none, some (.int a), some (.long y), none, some (.int b)]) (st1 := [(.ref 29)]) rfl rfl fun x5 e6 => ?_
      have e6 : x5 = a * x3 := e6
      have e6t : x5.toInt = a.toInt * 6 := by rw [e6, n_mul (by rw [e4t]; omega) (by rw [e4t]; omega), e4t]
      refine aw_step (f1 := (146, [some (.ref 25), some (.ref 3), some (.ref 18), some (.int L), some (.long x), none, some (.int a), some (.long y), none, some (.int b)], [(.int b), (.int x5), (.ref 29)])) (w1 := w) rfl rfl ?_
      refine s_i (pc1 := 147) (ls1 := [some (.ref 25), some (.ref 3), some (.ref 18), some (.int L), some (.long x), none, some (.int a), some (.long y), none, some (.int b)]) (st1 := [(.ref 29)]) rfl rfl fun x7 e8 => ?_
      have e8 : x7 = x5 + b := e8
      have e8t : x7.toInt = x5.toInt + b.toInt := by rw [e8]; exact n_add (by omega) (by omega)
      have ixe : x7.toInt.toNat = 6 * a.toInt.toNat + b.toInt.toNat := by omega
      refine aw_step (f1 := (148, [some (.ref 25), some (.ref 3), some (.ref 18), some (.int L), some (.long x), none, some (.int a), some (.long y), none, some (.int b)], [(.ref 18), (.int x7), (.ref 29)])) (w1 := w) rfl rfl ?_
      refine s_gr 19 J 151 rfl rfl rfl rfl rfl rfl ?_
      refine aw_step (f1 := (152, [some (.ref 25), some (.ref 3), some (.ref 18), some (.int L), some (.long x), none, some (.int a), some (.long y), none, some (.int b)], [(.ref 25), (.ref 19), (.int x7), (.ref 29)])) (w1 := w) rfl rfl ?_
      refine s_gr 26 J 155 rfl rfl rfl rfl rfl rfl ?_
      refine aw_step (f1 := (157, [some (.ref 25), some (.ref 3), some (.ref 18), some (.int L), some (.long x), none, some (.int a), some (.long y), none, some (.int b)], [(.int b), (.ref 26), (.ref 19), (.int x7), (.ref 29)])) (w1 := w) rfl rfl ?_
      refine s_ia J 158 rfl rfl rfl rfl (by omega) (by omega) fun x9 x9a x9b x9f => ?_
      have x9v : x9.toInt = rI w 26 b.toInt.toNat := by rw [← rI_of x9f]
      have plb : x9.toInt = rI wb 26 b.toInt.toNat := by rw [x9v]; exact O.rIe (by decide)
      have plr := hp b.toInt.toNat (by omega)
      refine s_ia J 159 rfl rfl rfl rfl (by omega) (by omega) fun x10 x10a x10b x10f => ?_
      have x10v : x10.toInt = rI w 19 x9.toInt.toNat := by rw [← rI_of x10f]
      have vle : x10.toInt = rI wb 19 (rI wb 26 b.toInt.toNat).toNat := by rw [x10v, plb]; exact O.rIe (by decide)
      refine s_is J 160 rfl rfl rfl rfl (by omega) (by omega) (by omega) (by omega) fun w11 J12 w11e => ?_
      have w11f := rI_st J.1 (p := 29) (j := x7.toInt.toNat) rfl (by omega) w11e
      refine aw_step (f1 := (163, [some (.ref 25), some (.ref 3), some (.ref 18), some (.int L), some (.long x), none, some (.int a), some (.long y), none, some (.int (b + Int32.ofInt 1))], [])) (w1 := w11) rfl rfl ?_
      obtain ⟨x13, x13e⟩ : ∃ z, z = (b + Int32.ofInt 1) := ⟨_, rfl⟩
      have x13t : x13.toInt = b.toInt + (1) := by rw [x13e]; exact n_add (y := Int32.ofInt (1)) (by show _ ≤ _ + (1 : Int); omega) (by show _ + (1 : Int) ≤ _; omega)
      rw [← x13e]
      refine aw_step (f1 := (126, [some (.ref 25), some (.ref 3), some (.ref 18), some (.int L), some (.long x), none, some (.int a), some (.long y), none, some (.int x13)], [])) (w1 := w11) rfl rfl ?_
      refine ih w11 x13 (by omega) (by omega) (by omega) J12 (O.trans w11f.1) (fun q hq => ?_) (fun q hq => ?_)
      · by_cases e : q = b.toInt.toNat
        · rw [e]
          have g := w11f.2.1
          rw [ixe] at g
          rw [g]
          exact vle
        · have g := w11f.2.2 (6 * a.toInt.toNat + q) (by rw [ixe]; omega)
          rw [g]
          exact F q (by omega)
      · rw [w11f.2.2 q (by rw [ixe]; omega)]
        exact G q hq
theorem e_plA {d m : Nat} {w00 wq : am_W} {V : Nat → Int} (R00 : RCs wq 3 V) (L : Int32) (hL : 1 ≤ L.toInt ∧ L.toInt ≤ 50) (x : Int64) (hm5 : m ≤ 5) (hmx : m = cnt (n64 x) 64 ∧ m ≤ 5) (PLq : plE V (n64 x) m (rI wq 26)) (hpl : ∀ q, q ≤ m → 0 ≤ rI wq 26 q ∧ rI wq 26 q < szV V) (hld : ∀ q, q ≤ m → (((rI wq 26 q).toNat : Nat) : Int) < szV V ∧ V (40 + (rI wq 26 q).toNat) ≠ 126) : ∀ (n : Nat) (w : am_W) (a : Int32) (o7 o8 o9 : Option Value), ((m : Int) + 1 - a.toInt).toNat < n → 0 ≤ a.toInt → a.toInt ≤ m + 1 → ab_J ab_TT ab_sets ab_WR w00 w → only [19, 29] wq w → fI w 25 2 = m → fI w 25 3 = -6 → (∀ i j, i < a.toInt.toNat → j ≤ m → dsV V L.toInt (rI wq 26 i).toNat (rI wq 26 j).toNat (rI w 29 (6 * i + j))) → (∀ i j, i < a.toInt.toNat → j < m → rI w 29 (6 * i + j) ≠ -6) → aw none (d + 8) 30 (fun r w1 => r = none ∧ ab_J ab_TT ab_sets ab_WR w00 w1 ∧ ∃ m : Nat, fI w1 25 2 = m ∧ (m = cnt (n64 x) 64 ∧ m ≤ 5) ∧ plE V (n64 x) m (rI w1 26) ∧ ((fI w1 25 3 = -6 ∧ ∃ a b, a ≤ m ∧ b < m ∧ ¬ wV V L.toInt (rI w1 26 a).toNat 36 (rI w1 26 b).toNat) ∨ (bwV V L.toInt m (rI w1 26) (rI w1 29) ∧ (∀ a b, a ≤ m → b ≤ m → rI w1 29 (6 * a + b) ≠ -6) ∧ bsE m (rI w1 29) 1000000 (-6) (m ^ m) (fI w1 25 3) (rI w1 27)))) (84, [some (.ref 25), some (.ref 3), some (.ref 18), some (.int L), some (.long x), none, some (.int a), o7, o8, o9], []) w := by
  intro n
  induction n with
  | zero => intro w a o7 o8 o9 p; omega
  | succ n ih =>
    intro w a o7 o8 o9 p1 p2 p3 J O M2 B6 F N
    have R := R00.of O (by decide)
    have szc := szC_in J.1
    have hsz := R.sz
    refine aw_step (f1 := (86, [some (.ref 25), some (.ref 3), some (.ref 18), some (.int L), some (.long x), none, some (.int a), o7, o8, o9], [(.int a)])) (w1 := w) rfl rfl ?_
    refine aw_step (f1 := (87, [some (.ref 25), some (.ref 3), some (.ref 18), some (.int L), some (.long x), none, some (.int a), o7, o8, o9], [(.ref 25), (.int a)])) (w1 := w) rfl rfl ?_
    refine s_gi J 90 rfl rfl rfl rfl rfl rfl fun x1 x1a x1b x1f => ?_
    have x1v : x1.toInt = fI w 25 2 := by rw [← fI_of x1f]
    refine s_ic 172 93 rfl rfl rfl (fun (h2 : x1.toInt < a.toInt) => ?_) (fun (h2 : ¬ (x1.toInt < a.toInt)) => ?_)
    · --
      refine aw_step (f1 := (173, [some (.ref 25), some (.ref 3), some (.ref 18), some (.int L), some (.long x), none, some (.int a), o7, o8, o9], [(.ref 25)])) (w1 := w) rfl rfl ?_
      refine s_i (pc1 := 174) (ls1 := [some (.ref 25), some (.ref 3), some (.ref 18), some (.int L), some (.long x), none, some (.int a), o7, o8, o9]) (st1 := [(.ref 25)]) rfl rfl fun x3 e4 => ?_
      have e4t : x3.toInt = 0 := by rw [e4]; rfl
      refine aw_step (f1 := (175, [some (.ref 25), some (.ref 3), some (.ref 18), some (.int L), some (.long x), none, some (.int a), o7, o8, o9], [(.ref 25), (.int x3), (.ref 25)])) (w1 := w) rfl rfl ?_
      refine s_gi J 178 rfl rfl rfl rfl rfl rfl fun x5 x5a x5b x5f => ?_
      have x5v : x5.toInt = fI w 25 2 := by rw [← fI_of x5f]
      refine s_i (pc1 := 179) (ls1 := [some (.ref 25), some (.ref 3), some (.ref 18), some (.int L), some (.long x), none, some (.int a), o7, o8, o9]) (st1 := [(.int x5), (.int x3), (.ref 25)]) rfl rfl fun x6 e7 => ?_
      have e7t : x6.toInt = 0 := by rw [e7]; rfl
      refine s_i (pc1 := 180) (ls1 := [some (.ref 25), some (.ref 3), some (.ref 18), some (.int L), some (.long x), none, some (.int a), o7, o8, o9]) (st1 := [(.int x6), (.int x5), (.int x3), (.ref 25)]) rfl rfl fun x8 e9 => ?_
      have e9t : x8.toInt = 0 := by rw [e9]; rfl
      have am1 : a.toInt.toNat = m + 1 := by omega
      rw [am1] at F N
      have con : ∀ i j, i ≤ m → j ≤ m → rI w 29 (6 * i + j) ≠ -6 := fun i j hi hj => by
        by_cases z : j < m
        · exact N i j (by omega) z
        · have e : j = m := by omega
          rw [e]
          have li := hld i hi
          have lm := hld m (Nat.le_refl _)
          have wv : wV V L.toInt (rI wq 26 i).toNat 36 (rI wq 26 m).toNat := by
            by_cases u : i = m
            · rw [u]; exact wV_le (Nat.zero_le _) rfl
            · have n1 := N m i (by omega) (by omega)
              rcases F m i (by omega) hi with q | ⟨dd, q1, q2, q3⟩
              · exact absurd q.1 n1
              · exact wV_sy lm (wV_le q2 q3.1)
          rcases F i m (by omega) (Nat.le_refl _) with q | ⟨dd, q1, q2, q3⟩
          · exact absurd wv q.2
          · omega
      have hbw : ∀ i j, i ≤ m → j ≤ m → 0 ≤ rI w 29 (6 * i + j) ∧ rI w 29 (6 * i + j) ≤ 36 := fun i j hi hj => by
        have c1 := con i j hi hj
        have c2 := (F i j (by omega) hj).b
        omega
      have uC : x5.toInt = pvo m (fun _ => 0) x3.toInt.toNat := by rw [show x3.toInt.toNat = 0 by omega]; show _ = (m : Int); omega
      have uD : x6.toInt = (usd (fun _ => 0) x3.toInt.toNat : Int) := by rw [show x3.toInt.toNat = 0 by omega]; show _ = (0 : Int); omega
      have uE : x8.toInt = ss m (rI w 29) (fun _ => 0) x3.toInt.toNat := by rw [show x3.toInt.toNat = 0 by omega]; show _ = (0 : Int); omega
      have uG : bsE m (rI w 29) 1000000 (-6) (vl m (fun _ => 0) x3.toInt.toNat * m ^ (m - x3.toInt.toNat)) (fI w 25 3) (rI w 27) := by
        rw [show x3.toInt.toNat = 0 by omega]
        show bsE m (rI w 29) 1000000 (-6) (0 * m ^ (m - 0)) (fI w 25 3) (rI w 27)
        rw [Nat.zero_mul]
        exact Or.inl ⟨B6, fun g _ l => by omega⟩
      refine s_cs (z := 31) (as := [(.ref 25), (.int x3), (.int x5), (.int x6), (.int x8)]) (st1 := []) 183 rfl rfl rfl rfl rfl rfl (Nat.le_of_ble_eq_true rfl) (Nat.le_of_ble_eq_true rfl) (Nat.le_of_ble_eq_true rfl) (e_try (d := d) (m := m) (bw := rI w 29) hm5 hbw 6 x3 x5 x6 x8 (fun _ => 0) w (by omega) ⟨by omega, by omega⟩ (fun i hi => by omega) (fun i j _ hj => by omega) uC uD uE J.1 M2 (fun i j _ _ => rfl) (fun i hi => by omega) uG) ?_
      rintro _ w10 ⟨rfl, J11c, w10o, w10m, w10r, w10b⟩
      have J11 := J.trans J11c
      refine ⟨am_len2 J J11c, ?_⟩
      show aw none _ 30 _ (183, [some (.ref 25), some (.ref 3), some (.ref 18), some (.int L), some (.long x), none, some (.int a), o7, o8, o9], []) w10
      refine aw_ret (v := none) rfl rfl ?_
      refine ⟨rfl, J11, m, w10m, hmx, ?_, Or.inr ⟨?_, ?_, ?_⟩⟩
      · have r26 : rI w10 26 = rI wq 26 := by funext j; rw [w10o.rIe (by decide)]; exact O.rIe (by decide)
        rw [r26]; exact PLq
      · intro i j hi hj
        rw [w10o.rIe (p := 26) (by decide), w10o.rIe (p := 26) (by decide), w10o.rIe (p := 29) (by decide), O.rIe (p := 26) (by decide), O.rIe (p := 26) (by decide)]
        exact F i j (by omega) hj
      · intro i j hi hj
        rw [w10o.rIe (by decide)]
        exact con i j hi hj
      · have b9 := w10b
        have r29 : rI w10 29 = rI w 29 := by funext j; exact w10o.rIe (by decide)
        rw [show x3.toInt.toNat = 0 by omega, show vl m (fun _ => 0) 0 = 0 from rfl, Nat.zero_add, Nat.one_mul, Nat.sub_zero] at b9
        rw [r29]
        exact b9
    · --
      refine aw_step (f1 := (94, [some (.ref 25), some (.ref 3), some (.ref 18), some (.int L), some (.long x), none, some (.int a), o7, o8, o9], [(.ref 18)])) (w1 := w) rfl rfl ?_
      refine aw_step (f1 := (95, [some (.ref 25), some (.ref 3), some (.ref 18), some (.int L), some (.long x), none, some (.int a), o7, o8, o9], [(.ref 3), (.ref 18)])) (w1 := w) rfl rfl ?_
      refine aw_step (f1 := (96, [some (.ref 25), some (.ref 3), some (.ref 18), some (.int L), some (.long x), none, some (.int a), o7, o8, o9], [(.int L), (.ref 3), (.ref 18)])) (w1 := w) rfl rfl ?_
      refine aw_step (f1 := (97, [some (.ref 25), some (.ref 3), some (.ref 18), some (.int L), some (.long x), none, some (.int a), o7, o8, o9], [(.ref 25), (.int L), (.ref 3), (.ref 18)])) (w1 := w) rfl rfl ?_
      refine s_gr 26 J 100 rfl rfl rfl rfl rfl rfl ?_
      refine aw_step (f1 := (102, [some (.ref 25), some (.ref 3), some (.ref 18), some (.int L), some (.long x), none, some (.int a), o7, o8, o9], [(.int a), (.ref 26), (.int L), (.ref 3), (.ref 18)])) (w1 := w) rfl rfl ?_
      refine s_ia J 103 rfl rfl rfl rfl (by omega) (by omega) fun x12 x12a x12b x12f => ?_
      have x12v : x12.toInt = rI w 26 a.toInt.toNat := by rw [← rI_of x12f]
      have pla : x12.toInt = rI wq 26 a.toInt.toNat := by rw [x12v]; exact O.rIe (by decide)
      have plr := hpl a.toInt.toNat (by omega)
      refine s_cv (z := 22) (p := 18) (as := [(.ref 3), (.int L), (.int x12)]) (st1 := []) J 106 rfl rfl rfl rfl rfl rfl rfl rfl (Nat.le_of_ble_eq_true rfl) (Nat.le_of_ble_eq_true rfl) (e_measure R L x12 ⟨by omega, by omega⟩ ⟨by omega, by omega⟩ J.1) ?_
      rintro _ w14 ⟨J15c, w14o, y13, rfl, y13t, w14p⟩
      have J15 := J.trans J15c
      refine ⟨am_len2 J J15c, ?_⟩
      show aw none _ 30 _ (106, [some (.ref 25), some (.ref 3), some (.ref 18), some (.int L), some (.long x), none, some (.int a), o7, o8, o9], [(.long y13)]) w14
      refine aw_step (f1 := (108, [some (.ref 25), some (.ref 3), some (.ref 18), some (.int L), some (.long x), none, some (.int a), some (.long y13), none, o9], [])) (w1 := w14) rfl rfl ?_
      refine aw_step (f1 := (110, [some (.ref 25), some (.ref 3), some (.ref 18), some (.int L), some (.long x), none, some (.int a), some (.long y13), none, o9], [(.long x)])) (w1 := w14) rfl rfl ?_
      refine aw_step (f1 := (112, [some (.ref 25), some (.ref 3), some (.ref 18), some (.int L), some (.long x), none, some (.int a), some (.long y13), none, o9], [(.long y13), (.long x)])) (w1 := w14) rfl rfl ?_
      refine s_l (pc1 := 115) (ls1 := [some (.ref 25), some (.ref 3), some (.ref 18), some (.int L), some (.long x), none, some (.int a), some (.long y13), none, o9]) (st1 := [(.long y13), (.long x)]) rfl rfl fun y16 e17 => ?_
      have e17t : y16.toInt = -1 := by rw [e17]; rfl
      --
      refine s_l (pc1 := 116) (ls1 := [some (.ref 25), some (.ref 3), some (.ref 18), some (.int L), some (.long x), none, some (.int a), some (.long y13), none, o9]) (st1 := [(.long x)]) rfl rfl fun y18 e19 => ?_
      have e19 : y18 = y13 ^^^ y16 := e19
      --
      refine s_l (pc1 := 117) (ls1 := [some (.ref 25), some (.ref 3), some (.ref 18), some (.int L), some (.long x), none, some (.int a), some (.long y13), none, o9]) (st1 := []) rfl rfl fun y20 e21 => ?_
      have e21 : y20 = x &&& y18 := e21
      have mt : ∀ j, bt (n64 y13) j = 1 ↔ wV V L.toInt (rI wq 26 a.toInt.toNat).toNat 36 j := fun j => by have q := y13t j; rw [pla] at q; exact q
      have si : y20.toInt = 0 ↔ ∀ j, bt (n64 x) j = 1 → wV V L.toInt (rI wq 26 a.toInt.toNat).toNat 36 j := (sub_iff (x := x) (d := y13) (m := y16) e17t (by rw [e21, e19])).trans ⟨fun h j hj => (mt j).mp (h j hj), fun h j hj => (mt j).mpr (h j hj)⟩
      refine s_l (pc1 := 118) (ls1 := [some (.ref 25), some (.ref 3), some (.ref 18), some (.int L), some (.long x), none, some (.int a), some (.long y13), none, o9]) (st1 := [(.long y20)]) rfl rfl fun y22 e23 => ?_
      have e23t : y22.toInt = 0 := by rw [e23]; rfl
      refine s_lc 123 122 119 rfl rfl rfl rfl rfl (fun (h24 : y20.toInt = y22.toInt) => ?_) (fun (h24 : ¬ (y20.toInt = y22.toInt)) => ?_)
      · --
        refine s_i (pc1 := 124) (ls1 := [some (.ref 25), some (.ref 3), some (.ref 18), some (.int L), some (.long x), none, some (.int a), some (.long y13), none, o9]) (st1 := []) rfl rfl fun x25 e26 => ?_
        have e26t : x25.toInt = 0 := by rw [e26]; rfl
        refine aw_step (f1 := (126, [some (.ref 25), some (.ref 3), some (.ref 18), some (.int L), some (.long x), none, some (.int a), some (.long y13), none, some (.int x25)], [])) (w1 := w14) rfl rfl ?_
        refine e_plB (m := m) (wb := w14) L x y13 a hm5 ⟨by omega, by omega⟩ (by rw [w14o.fIe (by decide)]; exact M2) (fun q hq => by rw [w14o.rIe (by decide), O.rIe (by decide)]; have := hpl q hq; omega) (fun w9 b9 J9 O9 F9 G9 => ?_) 7 w14 x25 (by omega) (by omega) (by omega) J15 only.rf (fun q hq => by omega) (fun q _ => rfl)
        refine aw_step (f1 := (169, [some (.ref 25), some (.ref 3), some (.ref 18), some (.int L), some (.long x), none, some (.int (a + Int32.ofInt 1)), some (.long y13), none, some (.int b9)], [])) (w1 := w9) rfl rfl ?_
        obtain ⟨zx1, zx1e⟩ : ∃ z, z = (a + Int32.ofInt 1) := ⟨_, rfl⟩
        have zx1t : zx1.toInt = a.toInt + (1) := by rw [zx1e]; exact n_add (y := Int32.ofInt (1)) (by show _ ≤ _ + (1 : Int); omega) (by show _ + (1 : Int) ≤ _; omega)
        rw [← zx1e]
        refine aw_step (f1 := (84, [some (.ref 25), some (.ref 3), some (.ref 18), some (.int L), some (.long x), none, some (.int zx1), some (.long y13), none, some (.int b9)], [])) (w1 := w9) rfl rfl ?_
        have O99 : only [19, 29] wq w9 := (O.trans (oc w14o (by decide))).trans (oc O9 (by decide))
        have r9 : ∀ i j, i < a.toInt.toNat → j ≤ m → rI w9 29 (6 * i + j) = rI w 29 (6 * i + j) := fun i j hi hj => by
          rw [G9 (6 * i + j) (by omega)]
          exact w14o.rIe (by decide)
        have v9 : ∀ j, j ≤ m → rI w9 29 (6 * a.toInt.toNat + j) = rI w14 19 (rI wq 26 j).toNat := fun j hj => by
          rw [F9 j hj, w14o.rIe (p := 26) (by decide), O.rIe (p := 26) (by decide)]
        have dc := w14p
        rw [pla] at dc
        refine ih w9 zx1 _ _ _ (by omega) (by omega) (by omega) J9 O99 (by rw [O9.fIe (by decide), w14o.fIe (by decide)]; exact M2) (by rw [O9.fIe (by decide), w14o.fIe (by decide)]; exact B6) (fun i j hi hj => ?_) (fun i j hi hj => ?_)
        · by_cases e : i = a.toInt.toNat
          · rw [e, v9 j hj]
            have q := hpl j hj
            exact dc _ (by omega)
          · rw [r9 i j (by omega) hj]
            exact F i j (by omega) hj
        · by_cases e : i = a.toInt.toNat
          · rw [e, v9 j (by omega)]
            have q := hpl j (by omega)
            obtain ⟨-, p2, -⟩ := PLq.1 j hj
            have al := si.mp (by omega) _ p2
            rcases dc (rI wq 26 j).toNat (by omega) with u | ⟨dd, u1, u2, u3⟩
            · exact absurd al u.2
            · omega
          · rw [r9 i j (by omega) (by omega)]
            exact N i j (by omega) hj
      · --
        refine aw_ret (v := none) rfl rfl ?_
        refine ⟨rfl, J15, m, by rw [w14o.fIe (by decide)]; exact M2, hmx, ?_, Or.inl ⟨by rw [w14o.fIe (by decide)]; exact B6, ?_⟩⟩
        · have r26 : rI w14 26 = rI wq 26 := by funext j; rw [w14o.rIe (by decide)]; exact O.rIe (by decide)
          rw [r26]; exact PLq
        · have nz : ¬ ∀ j, bt (n64 x) j = 1 → wV V L.toInt (rI wq 26 a.toInt.toNat).toNat 36 j := fun q => by have := si.mpr q; omega
          have ex : ∃ j, bt (n64 x) j = 1 ∧ ¬ wV V L.toInt (rI wq 26 a.toInt.toNat).toNat 36 j := by
            apply Classical.byContradiction
            intro u
            apply nz
            intro j hj
            apply Classical.byContradiction
            intro z
            exact u ⟨j, hj, z⟩
          obtain ⟨j, j1, j2⟩ := ex
          have jc : cnt (n64 x) j < m := by
            have l1 := cnt_in (x := n64 x) (a := j) (b := 64) (by
              apply Classical.byContradiction
              intro u
              rw [bt_hi (n64_lt x) (by omega)] at j1
              omega) j1
            omega
          obtain ⟨-, p2, p3⟩ := PLq.1 _ jc
          have ej := cnt_eq p2 j1 p3
          refine ⟨a.toInt.toNat, cnt (n64 x) j, by omega, jc, ?_⟩
          rw [w14o.rIe (p := 26) (by decide), w14o.rIe (p := 26) (by decide), O.rIe (p := 26) (by decide), O.rIe (p := 26) (by decide), ej]
          exact j2
theorem e_plF {d : Nat} {w00 : am_W} {V : Nat → Int} (R00 : RCs w00 3 V) (hh : 0 ≤ V 2 ∧ V 2 < szV V) (hhl : V (40 + (V 2).toNat) ≠ 126) (L : Int32) (hL : 1 ≤ L.toInt ∧ L.toInt ≤ 50) (x : Int64) (sx : stV V (n64 x)) (hx5 : cnt (n64 x) 64 ≤ 5) : ∀ (n : Nat) (w : am_W) (c : Int32) (o7 o8 o9 : Option Value), (szV V - c.toInt).toNat < n → 0 ≤ c.toInt → c.toInt ≤ szV V → ab_J ab_TT ab_sets ab_WR w00 w → only [25, 26] w00 w → fI w 25 2 = cnt (n64 x) c.toInt.toNat → (∀ k, k < cnt (n64 x) c.toInt.toNat → (0 ≤ rI w 26 k ∧ rI w 26 k < c.toInt) ∧ bt (n64 x) (rI w 26 k).toNat = 1 ∧ cnt (n64 x) (rI w 26 k).toNat = k) → aw none (d + 8) 30 (fun r w1 => r = none ∧ ab_J ab_TT ab_sets ab_WR w00 w1 ∧ ∃ m : Nat, fI w1 25 2 = m ∧ (m = cnt (n64 x) 64 ∧ m ≤ 5) ∧ plE V (n64 x) m (rI w1 26) ∧ ((fI w1 25 3 = -6 ∧ ∃ a b, a ≤ m ∧ b < m ∧ ¬ wV V L.toInt (rI w1 26 a).toNat 36 (rI w1 26 b).toNat) ∨ (bwV V L.toInt m (rI w1 26) (rI w1 29) ∧ (∀ a b, a ≤ m → b ≤ m → rI w1 29 (6 * a + b) ≠ -6) ∧ bsE m (rI w1 29) 1000000 (-6) (m ^ m) (fI w1 25 3) (rI w1 27)))) (8, [some (.ref 25), some (.ref 3), some (.ref 18), some (.int L), some (.long x), none, some (.int c), o7, o8, o9], []) w := by
  intro n
  induction n with
  | zero => intro w c o7 o8 o9 p; omega
  | succ n ih =>
    intro w c o7 o8 o9 p1 p2 p3 J O M2 F
    have R := R00.of O (by decide)
    have szc := szC_in J.1
    have hsz := R.sz
    have r2 := R.f2
    have cle := cnt_le (n64 x) c.toInt.toNat
    have cmo := cnt_mono (n64 x) (show c.toInt.toNat ≤ 64 by omega)
    refine aw_step (f1 := (10, [some (.ref 25), some (.ref 3), some (.ref 18), some (.int L), some (.long x), none, some (.int c), o7, o8, o9], [(.int c)])) (w1 := w) rfl rfl ?_
    refine aw_step (f1 := (11, [some (.ref 25), some (.ref 3), some (.ref 18), some (.int L), some (.long x), none, some (.int c), o7, o8, o9], [(.ref 3), (.int c)])) (w1 := w) rfl rfl ?_
    refine s_cv (z := 38) (p := 3) (as := []) (st1 := [(.int c)]) J 14 rfl rfl rfl rfl rfl rfl rfl rfl (Nat.le_of_ble_eq_true rfl) (Nat.le_of_ble_eq_true rfl) (q_size J.1) ?_
    rintro _ _ ⟨rfl, x1, rfl, x1t⟩
    refine ⟨rfl, ?_⟩
    show aw none _ 30 _ (14, [some (.ref 25), some (.ref 3), some (.ref 18), some (.int L), some (.long x), none, some (.int c), o7, o8, o9], [(.int x1), (.int c)]) w
    refine s_ic 62 17 rfl rfl rfl (fun (h2 : x1.toInt ≤ c.toInt) => ?_) (fun (h2 : ¬ (x1.toInt ≤ c.toInt)) => ?_)
    · --
      refine aw_step (f1 := (63, [some (.ref 25), some (.ref 3), some (.ref 18), some (.int L), some (.long x), none, some (.int c), o7, o8, o9], [(.ref 25)])) (w1 := w) rfl rfl ?_
      refine s_gr 26 J 66 rfl rfl rfl rfl rfl rfl ?_
      refine aw_step (f1 := (67, [some (.ref 25), some (.ref 3), some (.ref 18), some (.int L), some (.long x), none, some (.int c), o7, o8, o9], [(.ref 25), (.ref 26)])) (w1 := w) rfl rfl ?_
      refine s_gi J 70 rfl rfl rfl rfl rfl rfl fun x3 x3a x3b x3f => ?_
      have x3v : x3.toInt = fI w 25 2 := by rw [← fI_of x3f]
      refine aw_step (f1 := (71, [some (.ref 25), some (.ref 3), some (.ref 18), some (.int L), some (.long x), none, some (.int c), o7, o8, o9], [(.ref 3), (.int x3), (.ref 26)])) (w1 := w) rfl rfl ?_
      refine s_gi J 74 rfl rfl rfl rfl rfl rfl fun x4 x4a x4b x4f => ?_
      have x4v : x4.toInt = fI w 3 2 := by rw [← fI_of x4f]
      --
      refine s_is J 75 rfl rfl rfl rfl (by omega) (by omega) (by omega) (by omega) fun w5 J6 w5e => ?_
      have w5f := rI_st J.1 (p := 26) (j := x3.toInt.toNat) rfl (by omega) w5e
      refine aw_step (f1 := (76, [some (.ref 25), some (.ref 3), some (.ref 18), some (.int L), some (.long x), none, some (.int c), o7, o8, o9], [(.ref 25)])) (w1 := w5) rfl rfl ?_
      refine s_i (pc1 := 78) (ls1 := [some (.ref 25), some (.ref 3), some (.ref 18), some (.int L), some (.long x), none, some (.int c), o7, o8, o9]) (st1 := [(.ref 25)]) rfl rfl fun x7 e8 => ?_
      have e8t : x7.toInt = -6 := by rw [e8]; rfl
      refine s_pi J6 81 rfl rfl rfl rfl rfl rfl rfl (by omega) (by omega) fun w9 J10 w9e => ?_
      have w9f := fv_st J6.1 (p := 25) (kf := 3) rfl (by decide) w9e
      refine s_i (pc1 := 82) (ls1 := [some (.ref 25), some (.ref 3), some (.ref 18), some (.int L), some (.long x), none, some (.int c), o7, o8, o9]) (st1 := []) rfl rfl fun x11 e12 => ?_
      have e12t : x11.toInt = 0 := by rw [e12]; rfl
      refine aw_step (f1 := (84, [some (.ref 25), some (.ref 3), some (.ref 18), some (.int L), some (.long x), none, some (.int x11), o7, o8, o9], [])) (w1 := w9) rfl rfl ?_
      have cz : cnt (n64 x) c.toInt.toNat = cnt (n64 x) 64 := by
        have e := cnt_top (n := n64 x) (m := c.toInt.toNat) (bt_lt fun j hj => by have := (sx j hj).1; omega) (64 - c.toInt.toNat)
        rw [show c.toInt.toNat + (64 - c.toInt.toNat) = 64 by omega] at e
        exact e.symm
      have ixe : x3.toInt.toNat = cnt (n64 x) 64 := by omega
      have g1 := w5f.2.1
      have g2 := w5f.2.2
      rw [ixe] at g1 g2
      have r26 : ∀ k, rI w9 26 k = rI w5 26 k := fun k => w9f.1.rIe (by decide)
      have PL : plE V (n64 x) (cnt (n64 x) 64) (rI w9 26) := by
        refine ⟨fun k hk => ?_, ?_⟩
        · rw [r26, g2 k (by omega)]
          obtain ⟨a1, a2, a3⟩ := F k (by omega)
          exact ⟨by omega, a2, a3⟩
        · rw [r26, g1]; omega
      refine e_plA (m := cnt (n64 x) 64) (wq := w9) (R00.of ((O.trans (oc w5f.1 (by decide))).trans (oc w9f.1 (by decide))) (by decide)) L hL x hx5 ⟨rfl, hx5⟩ PL (fun q hq => ?_) (fun q hq => ?_) 7 w9 x11 _ _ _ (by omega) (by omega) (by omega) J10 only.rf (by rw [fI_eq (w9f.2.2 2 (by decide)), w5f.1.fIe (by decide)]; omega) (by rw [fI_of w9f.2.1]; omega) (fun i j hi => by omega) (fun i j hi => by omega)
      · by_cases e : q = cnt (n64 x) 64
        · rw [e, PL.2]; omega
        · exact (PL.1 q (by omega)).1
      · by_cases e : q = cnt (n64 x) 64
        · rw [e, PL.2]; exact ⟨by omega, hhl⟩
        · obtain ⟨a1, a2, a3⟩ := PL.1 q (by omega)
          exact sx _ a2
    · --
      have cm := cnt_mono (n64 x) (show c.toInt.toNat + 1 ≤ 64 by omega)
      have bs0 := bt_s (n64 x) c.toInt.toNat
      refine aw_step (f1 := (19, [some (.ref 25), some (.ref 3), some (.ref 18), some (.int L), some (.long x), none, some (.int c), o7, o8, o9], [(.long x)])) (w1 := w) rfl rfl ?_
      refine aw_step (f1 := (21, [some (.ref 25), some (.ref 3), some (.ref 18), some (.int L), some (.long x), none, some (.int c), o7, o8, o9], [(.int c), (.long x)])) (w1 := w) rfl rfl ?_
      refine s_cs (z := 105) (as := [(.long x), (.int c)]) (st1 := []) 24 rfl rfl rfl rfl rfl rfl (Nat.le_of_ble_eq_true rfl) (Nat.le_of_ble_eq_true rfl) (Nat.le_of_ble_eq_true rfl) (q_hasC x c (by omega) (by omega)) ?_
      rintro _ _ ⟨rfl, x13, rfl, x13t⟩
      refine ⟨rfl, ?_⟩
      show aw none _ 30 _ (24, [some (.ref 25), some (.ref 3), some (.ref 18), some (.int L), some (.long x), none, some (.int c), o7, o8, o9], [(.int x13)]) w
      have x13l := bt_le (n64 x) c.toInt.toNat
      refine s_if 56 27 rfl rfl rfl (fun (h14 : x13.toInt = 0) => ?_) (fun (h14 : ¬ (x13.toInt = 0)) => ?_)
      · --
        refine aw_step (f1 := (59, [some (.ref 25), some (.ref 3), some (.ref 18), some (.int L), some (.long x), none, some (.int (c + Int32.ofInt 1)), o7, o8, o9], [])) (w1 := w) rfl rfl ?_
        obtain ⟨x15, x15e⟩ : ∃ z, z = (c + Int32.ofInt 1) := ⟨_, rfl⟩
        have x15t : x15.toInt = c.toInt + (1) := by rw [x15e]; exact n_add (y := Int32.ofInt (1)) (by show _ ≤ _ + (1 : Int); omega) (by show _ + (1 : Int) ≤ _; omega)
        rw [← x15e]
        refine aw_step (f1 := (8, [some (.ref 25), some (.ref 3), some (.ref 18), some (.int L), some (.long x), none, some (.int x15), o7, o8, o9], [])) (w1 := w) rfl rfl ?_
        have bs := bt_s (n64 x) c.toInt.toNat
        rw [show c.toInt.toNat + 1 = x15.toInt.toNat by omega] at bs
        exact ih w x15 _ _ _ (by omega) (by omega) (by omega) J O (by omega) (fun k hk => by
          obtain ⟨a1, a2, a3⟩ := F k (by omega)
          exact ⟨by omega, a2, a3⟩)
      · --
        refine aw_step (f1 := (28, [some (.ref 25), some (.ref 3), some (.ref 18), some (.int L), some (.long x), none, some (.int c), o7, o8, o9], [(.ref 25)])) (w1 := w) rfl rfl ?_
        refine s_gi J 31 rfl rfl rfl rfl rfl rfl fun x16 x16a x16b x16f => ?_
        have x16v : x16.toInt = fI w 25 2 := by rw [← fI_of x16f]
        refine s_i (pc1 := 32) (ls1 := [some (.ref 25), some (.ref 3), some (.ref 18), some (.int L), some (.long x), none, some (.int c), o7, o8, o9]) (st1 := [(.int x16)]) rfl rfl fun x17 e18 => ?_
        have e18t : x17.toInt = 5 := by rw [e18]; rfl
        refine s_ic 56 35 rfl rfl rfl (fun (h19 : x17.toInt ≤ x16.toInt) => ?_) (fun (h19 : ¬ (x17.toInt ≤ x16.toInt)) => ?_)
        · --
          refine aw_step (f1 := (59, [some (.ref 25), some (.ref 3), some (.ref 18), some (.int L), some (.long x), none, some (.int (c + Int32.ofInt 1)), o7, o8, o9], [])) (w1 := w) rfl rfl ?_
          obtain ⟨x20, x20e⟩ : ∃ z, z = (c + Int32.ofInt 1) := ⟨_, rfl⟩
          have x20t : x20.toInt = c.toInt + (1) := by rw [x20e]; exact n_add (y := Int32.ofInt (1)) (by show _ ≤ _ + (1 : Int); omega) (by show _ + (1 : Int) ≤ _; omega)
          rw [← x20e]
          refine aw_step (f1 := (8, [some (.ref 25), some (.ref 3), some (.ref 18), some (.int L), some (.long x), none, some (.int x20), o7, o8, o9], [])) (w1 := w) rfl rfl ?_
          have bs := bt_s (n64 x) c.toInt.toNat
          rw [show c.toInt.toNat + 1 = x20.toInt.toNat by omega] at bs
          exact ih w x20 _ _ _ (by omega) (by omega) (by omega) J O (by omega) (fun k hk => by
            obtain ⟨a1, a2, a3⟩ := F k (by omega)
            exact ⟨by omega, a2, a3⟩)
        · --
          refine aw_step (f1 := (36, [some (.ref 25), some (.ref 3), some (.ref 18), some (.int L), some (.long x), none, some (.int c), o7, o8, o9], [(.ref 25)])) (w1 := w) rfl rfl ?_
          refine s_gr 26 J 39 rfl rfl rfl rfl rfl rfl ?_
          refine aw_step (f1 := (40, [some (.ref 25), some (.ref 3), some (.ref 18), some (.int L), some (.long x), none, some (.int c), o7, o8, o9], [(.ref 25), (.ref 26)])) (w1 := w) rfl rfl ?_
          refine s_gi J 43 rfl rfl rfl rfl rfl rfl fun x21 x21a x21b x21f => ?_
          have x21v : x21.toInt = fI w 25 2 := by rw [← fI_of x21f]
          refine aw_step (f1 := (45, [some (.ref 25), some (.ref 3), some (.ref 18), some (.int L), some (.long x), none, some (.int c), o7, o8, o9], [(.int c), (.int x21), (.ref 26)])) (w1 := w) rfl rfl ?_
          --
          refine s_is J 46 rfl rfl rfl rfl (by omega) (by omega) (by omega) (by omega) fun w22 J23 w22e => ?_
          have w22f := rI_st J.1 (p := 26) (j := x21.toInt.toNat) rfl (by omega) w22e
          refine aw_step (f1 := (47, [some (.ref 25), some (.ref 3), some (.ref 18), some (.int L), some (.long x), none, some (.int c), o7, o8, o9], [(.ref 25)])) (w1 := w22) rfl rfl ?_
          refine aw_step (f1 := (48, [some (.ref 25), some (.ref 3), some (.ref 18), some (.int L), some (.long x), none, some (.int c), o7, o8, o9], [(.ref 25), (.ref 25)])) (w1 := w22) rfl rfl ?_
          refine s_gi J23 51 rfl rfl rfl rfl rfl rfl fun x24 x24a x24b x24f => ?_
          have x24v : x24.toInt = fI w 25 2 := by rw [← fI_of x24f, w22f.1.fIe (by decide)]
          refine s_i (pc1 := 52) (ls1 := [some (.ref 25), some (.ref 3), some (.ref 18), some (.int L), some (.long x), none, some (.int c), o7, o8, o9]) (st1 := [(.int x24), (.ref 25)]) rfl rfl fun x25 e26 => ?_
          have e26t : x25.toInt = 1 := by rw [e26]; rfl
          refine s_i (pc1 := 53) (ls1 := [some (.ref 25), some (.ref 3), some (.ref 18), some (.int L), some (.long x), none, some (.int c), o7, o8, o9]) (st1 := [(.ref 25)]) rfl rfl fun x27 e28 => ?_
          have e28 : x27 = x24 + x25 := e28
          have e28t : x27.toInt = x24.toInt + x25.toInt := by rw [e28]; exact n_add (by omega) (by omega)
          refine s_pi J23 56 rfl rfl rfl rfl rfl rfl rfl (by omega) (by omega) fun w29 J30 w29e => ?_
          have w29f := fv_st J23.1 (p := 25) (kf := 2) rfl (by decide) w29e
          refine aw_step (f1 := (59, [some (.ref 25), some (.ref 3), some (.ref 18), some (.int L), some (.long x), none, some (.int (c + Int32.ofInt 1)), o7, o8, o9], [])) (w1 := w29) rfl rfl ?_
          obtain ⟨x31, x31e⟩ : ∃ z, z = (c + Int32.ofInt 1) := ⟨_, rfl⟩
          have x31t : x31.toInt = c.toInt + (1) := by rw [x31e]; exact n_add (y := Int32.ofInt (1)) (by show _ ≤ _ + (1 : Int); omega) (by show _ + (1 : Int) ≤ _; omega)
          rw [← x31e]
          refine aw_step (f1 := (8, [some (.ref 25), some (.ref 3), some (.ref 18), some (.int L), some (.long x), none, some (.int x31), o7, o8, o9], [])) (w1 := w29) rfl rfl ?_
          have bs := bt_s (n64 x) c.toInt.toNat
          rw [show c.toInt.toNat + 1 = x31.toInt.toNat by omega] at bs
          have ixe : x21.toInt.toNat = cnt (n64 x) c.toInt.toNat := by omega
          have g1 := w22f.2.1
          have g2 := w22f.2.2
          rw [ixe] at g1 g2
          refine ih w29 x31 _ _ _ (by omega) (by omega) (by omega) J30 ((O.trans (oc w22f.1 (by decide))).trans (oc w29f.1 (by decide))) (by rw [fI_of w29f.2.1]; omega) (fun k hk => ?_)
          rw [w29f.1.rIe (by decide)]
          by_cases e : k = cnt (n64 x) c.toInt.toNat
          · rw [e, g1]
            exact ⟨by omega, by omega, rfl⟩
          · rw [g2 k e]
            obtain ⟨a1, a2, a3⟩ := F k (by omega)
            exact ⟨by omega, a2, a3⟩
theorem e_plan {d : Nat} {w : am_W} {V : Nat → Int} (R : RCs w 3 V) (hh : 0 ≤ V 2 ∧ V 2 < szV V) (hhl : V (40 + (V 2).toNat) ≠ 126) (L : Int32) (hL : 1 ≤ L.toInt ∧ L.toInt ≤ 50) (x : Int64) (sx : stV V (n64 x)) (hx5 : cnt (n64 x) 64 ≤ 5) (I : ab_inv ab_TT ab_sets w) : aw none (d + 8) 30 (fun r w1 => r = none ∧ ab_J ab_TT ab_sets ab_WR w w1 ∧ ∃ m : Nat, fI w1 25 2 = m ∧ (m = cnt (n64 x) 64 ∧ m ≤ 5) ∧ plE V (n64 x) m (rI w1 26) ∧ ((fI w1 25 3 = -6 ∧ ∃ a b, a ≤ m ∧ b < m ∧ ¬ wV V L.toInt (rI w1 26 a).toNat 36 (rI w1 26 b).toNat) ∨ (bwV V L.toInt m (rI w1 26) (rI w1 29) ∧ (∀ a b, a ≤ m → b ≤ m → rI w1 29 (6 * a + b) ≠ -6) ∧ bsE m (rI w1 29) 1000000 (-6) (m ^ m) (fI w1 25 3) (rI w1 27)))) (0, am_entry 30 [.ref 25, .ref 3, .ref 18, .int L, .long x], []) w := by
  have J : ab_J ab_TT ab_sets ab_WR w w := ⟨I, ab_fr.rf⟩
  have szc := szC_in I
  have hsz := R.sz
  show aw none (d + 8) 30 _ (0, [some (.ref 25), some (.ref 3), some (.ref 18), some (.int L), some (.long x), none, none, none, none, none], []) w
  refine aw_step (f1 := (1, [some (.ref 25), some (.ref 3), some (.ref 18), some (.int L), some (.long x), none, none, none, none, none], [(.ref 25)])) (w1 := w) rfl rfl ?_
  refine s_i (pc1 := 2) (ls1 := [some (.ref 25), some (.ref 3), some (.ref 18), some (.int L), some (.long x), none, none, none, none, none]) (st1 := [(.ref 25)]) rfl rfl fun x1 e2 => ?_
  have e2t : x1.toInt = 0 := by rw [e2]; rfl
  refine s_pi J 5 rfl rfl rfl rfl rfl rfl rfl (by omega) (by omega) fun w3 J4 w3e => ?_
  have w3f := fv_st J.1 (p := 25) (kf := 2) rfl (by decide) w3e
  refine s_i (pc1 := 6) (ls1 := [some (.ref 25), some (.ref 3), some (.ref 18), some (.int L), some (.long x), none, none, none, none, none]) (st1 := []) rfl rfl fun x5 e6 => ?_
  have e6t : x5.toInt = 0 := by rw [e6]; rfl
  refine aw_step (f1 := (8, [some (.ref 25), some (.ref 3), some (.ref 18), some (.int L), some (.long x), none, some (.int x5), none, none, none], [])) (w1 := w3) rfl rfl ?_
  exact e_plF R hh hhl L hL x sx hx5 37 w3 x5 _ _ _ (by omega) (by omega) (by omega) J4 (oc w3f.1 (by decide)) (by rw [fI_of w3f.2.1, show x5.toInt.toNat = 0 by omega]; show _ = ((0 : Nat) : Int); omega) (fun k hk => by rw [show x5.toInt.toNat = 0 by omega] at hk; have hk : k < 0 := hk; omega)
theorem e_errands {d : Nat} {w : am_W} {V : Nat → Int} (R : RCs w 3 V) (hh : 0 ≤ V 2 ∧ V 2 < szV V) (hhl : V (40 + (V 2).toNat) ≠ 126) (b : Int32) (x : Int64) (i : Int32) (I : ab_inv ab_TT ab_sets w) : aw none (d + 9) 78 (fun r w1 => ab_J ab_TT ab_sets ab_WR w w1 ∧ ∃ z : Int32, r = some (.int z) ∧ errP V b.toInt (n64 x) i.toInt z.toInt) (0, am_entry 78 [.ref 0, .int b, .long x, .int i], []) w := by
  have J : ab_J ab_TT ab_sets ab_WR w w := ⟨I, ab_fr.rf⟩
  have szc := szC_in I
  have hsz := R.sz
  show aw none (d + 9) 78 _ (0, [some (.ref 0), some (.int b), some (.long x), none, some (.int i)], []) w
  refine aw_step (f1 := (1, [some (.ref 0), some (.int b), some (.long x), none, some (.int i)], [(.int b)])) (w1 := w) rfl rfl ?_
  refine s_cs (z := 103) (as := [(.int b)]) (st1 := []) 4 rfl rfl rfl rfl rfl rfl (Nat.le_of_ble_eq_true rfl) (Nat.le_of_ble_eq_true rfl) (Nat.le_of_ble_eq_true rfl) (q_isBoots b) ?_
  rintro _ _ ⟨rfl, x1, rfl, x1t⟩
  refine ⟨rfl, ?_⟩
  show aw none _ 78 _ (4, [some (.ref 0), some (.int b), some (.long x), none, some (.int i)], [(.int x1)]) w
  refine s_if 9 7 rfl rfl rfl (fun (h2 : ¬ x1.toInt = 0) => ?_) (fun (h2 : ¬ (¬ x1.toInt = 0)) => ?_)
  · --
    refine aw_step (f1 := (10, [some (.ref 0), some (.int b), some (.long x), none, some (.int i)], [(.long x)])) (w1 := w) rfl rfl ?_
    refine aw_step (f1 := (11, [some (.ref 0), some (.int b), some (.long x), none, some (.int i)], [(.ref 0), (.long x)])) (w1 := w) rfl rfl ?_
    refine s_gr 3 J 14 rfl rfl rfl rfl rfl rfl ?_
    refine s_gl J 17 rfl rfl rfl rfl rfl rfl fun y3 y3a y3b y3f => ?_
    --
    refine s_l (pc1 := 20) (ls1 := [some (.ref 0), some (.int b), some (.long x), none, some (.int i)]) (st1 := [(.long y3), (.long x)]) rfl rfl fun y4 e5 => ?_
    have e5t : y4.toInt = -1 := by rw [e5]; rfl
    --
    refine s_l (pc1 := 21) (ls1 := [some (.ref 0), some (.int b), some (.long x), none, some (.int i)]) (st1 := [(.long x)]) rfl rfl fun y6 e7 => ?_
    have e7 : y6 = y3 ^^^ y4 := e7
    --
    refine s_l (pc1 := 22) (ls1 := [some (.ref 0), some (.int b), some (.long x), none, some (.int i)]) (st1 := []) rfl rfl fun y8 e9 => ?_
    have e9 : y8 = x &&& y6 := e9
    have hd := R.2.2
    rw [fL_of y3f] at hd
    have si : y8.toInt = 0 ↔ stV V (n64 x) := (sub_iff (x := x) (d := y3) (m := y4) e5t (by rw [e9, e7])).trans ⟨fun h j hj => (hd j).mp (h j hj), fun h j hj => (hd j).mpr (h j hj)⟩
    refine s_l (pc1 := 23) (ls1 := [some (.ref 0), some (.int b), some (.long x), none, some (.int i)]) (st1 := [(.long y8)]) rfl rfl fun y10 e11 => ?_
    have e11t : y10.toInt = 0 := by rw [e11]; rfl
    refine s_lc 30 27 24 rfl rfl rfl rfl rfl (fun (h12 : y8.toInt = y10.toInt) => ?_) (fun (h12 : ¬ (y8.toInt = y10.toInt)) => ?_)
    · --
      refine aw_step (f1 := (31, [some (.ref 0), some (.int b), some (.long x), none, some (.int i)], [(.long x)])) (w1 := w) rfl rfl ?_
      refine s_cs (z := 188) (as := [(.long x)]) (st1 := []) 34 rfl rfl rfl rfl rfl rfl (Nat.le_of_ble_eq_true rfl) (Nat.le_of_ble_eq_true rfl) (Nat.le_of_ble_eq_true rfl) (q_bc64 x) ?_
      rintro _ _ ⟨rfl, x13, rfl, x13t⟩
      refine ⟨rfl, ?_⟩
      show aw none _ 78 _ (34, [some (.ref 0), some (.int b), some (.long x), none, some (.int i)], [(.int x13)]) w
      have x13c := cnt_le (n64 x) 64
      refine s_i (pc1 := 35) (ls1 := [some (.ref 0), some (.int b), some (.long x), none, some (.int i)]) (st1 := [(.int x13)]) rfl rfl fun x14 e15 => ?_
      have e15t : x14.toInt = 5 := by rw [e15]; rfl
      refine s_ic 41 38 rfl rfl rfl (fun (h16 : x13.toInt ≤ x14.toInt) => ?_) (fun (h16 : ¬ (x13.toInt ≤ x14.toInt)) => ?_)
      · --
        refine aw_step (f1 := (42, [some (.ref 0), some (.int b), some (.long x), none, some (.int i)], [(.ref 0)])) (w1 := w) rfl rfl ?_
        refine s_gr 25 J 45 rfl rfl rfl rfl rfl rfl ?_
        refine aw_step (f1 := (46, [some (.ref 0), some (.int b), some (.long x), none, some (.int i)], [(.ref 0), (.ref 25)])) (w1 := w) rfl rfl ?_
        refine s_gr 3 J 49 rfl rfl rfl rfl rfl rfl ?_
        refine aw_step (f1 := (50, [some (.ref 0), some (.int b), some (.long x), none, some (.int i)], [(.ref 0), (.ref 3), (.ref 25)])) (w1 := w) rfl rfl ?_
        refine s_gr 18 J 53 rfl rfl rfl rfl rfl rfl ?_
        refine aw_step (f1 := (54, [some (.ref 0), some (.int b), some (.long x), none, some (.int i)], [(.ref 0), (.ref 18), (.ref 3), (.ref 25)])) (w1 := w) rfl rfl ?_
        refine s_gr 3 J 57 rfl rfl rfl rfl rfl rfl ?_
        refine s_gr 7 J 60 rfl rfl rfl rfl rfl rfl ?_
        refine aw_step (f1 := (61, [some (.ref 0), some (.int b), some (.long x), none, some (.int i)], [(.int b), (.ref 7), (.ref 18), (.ref 3), (.ref 25)])) (w1 := w) rfl rfl ?_
        refine s_ia J 62 rfl rfl rfl rfl (by omega) (by omega) fun x17 x17a x17b x17f => ?_
        have x17v : x17.toInt = rI w 7 b.toInt.toNat := by rw [← rI_of x17f]
        have hl : x17.toInt = V (8 + 4 * b.toInt.toNat + 0) := by rw [x17v]; exact R.rv (r := 4) (i := b.toInt.toNat) (by decide) (by decide) (by omega) (by show b.toInt.toNat < 4; omega)
        refine aw_step (f1 := (63, [some (.ref 0), some (.int b), some (.long x), none, some (.int i)], [(.long x), (.int x17), (.ref 18), (.ref 3), (.ref 25)])) (w1 := w) rfl rfl ?_
        refine s_cv (z := 30) (p := 25) (as := [(.ref 3), (.ref 18), (.int x17), (.long x)]) (st1 := []) J 66 rfl rfl rfl rfl rfl rfl rfl rfl (Nat.le_of_ble_eq_true rfl) (Nat.le_of_ble_eq_true rfl) (e_plan R hh hhl x17 ⟨by omega, by omega⟩ x (si.mp (by omega)) (by omega) J.1) ?_
        rintro _ w18 ⟨rfl, J19c, w18m, w18M, w18x, w18P, w18p⟩
        have J19 := J.trans J19c
        refine ⟨am_len2 J J19c, ?_⟩
        show aw none _ 78 _ (66, [some (.ref 0), some (.int b), some (.long x), none, some (.int i)], []) w18
        have w18y := w18x.2
        rw [hl] at w18p
        have bm : bmD w18m (rI w18 29) (fI w18 25 3) (rI w18 27) := by
          rcases w18p with ⟨q, -⟩ | ⟨q1, q2, q3⟩
          · exact Or.inl q
          · rcases q3 with ⟨q, -⟩ | ⟨g, g1, g2, g3, g4, g5, g6⟩
            · exact Or.inl q
            · exact Or.inr ⟨g, ⟨g1, fun h p => g6 h p (vl_lt p.1)⟩, g4, g5⟩
        have E6 : fI w18 25 3 = -6 → ∀ z : Int32, z.toInt = -6 → erW V (V (8 + 4 * b.toInt.toNat + 0)) (n64 x) i.toInt z.toInt := fun e z hz => by
          rcases w18p with ⟨q, a, c, a1, c1, nw⟩ | ⟨q1, q2, q3⟩
          · refine ⟨w18m, rI w18 26, bwC V (V (8 + 4 * b.toInt.toNat + 0)) (rI w18 26), w18x, w18P, fun a b _ hb => bwC_s (by omega), Or.inl ⟨hz, Or.inl ⟨a, c, a1, by omega, ?_⟩⟩⟩
            rcases bwC_s (V := V) (L := V (8 + 4 * b.toInt.toNat + 0)) (pl := rI w18 26) (a := a) (b := c) (by omega) with u | ⟨dd, u1, u2, u3⟩
            · exact u.1
            · exact absurd (wV_le u2 u3.1) nw
          · refine ⟨w18m, rI w18 26, rI w18 29, w18x, w18P, q1, Or.inl ⟨hz, Or.inr fun g pg => ?_⟩⟩
            rcases q3 with ⟨q, q4⟩ | ⟨g', g1, g2, g3, g4, g5, g6⟩
            · have := q4 g pg (vl_lt pg.1)
              have sb := ss_b (m := w18m) (a := rI w18 29) (B := 36) pg.1 (fun i j hi hj => by have := (q1 i j hi hj).b; have := q2 i j hi hj; omega) (k := w18m) (Nat.le_refl _)
              have lb := (q1 (pvo w18m g w18m) w18m (pvo_le pg.1 (Nat.le_refl _)) (Nat.le_refl _)).b
              unfold SS at this
              omega
            · have sb := ss_b (m := w18m) (a := rI w18 29) (B := 36) g1.1 (fun i j hi hj => by have := (q1 i j hi hj).b; have := q2 i j hi hj; omega) (k := w18m) (Nat.le_refl _)
              have lb := (q1 (pvo w18m g' w18m) w18m (pvo_le g1.1 (Nat.le_refl _)) (Nat.le_refl _)).b
              have ln := q2 (pvo w18m g' w18m) w18m (pvo_le g1.1 (Nat.le_refl _)) (Nat.le_refl _)
              unfold SS at g4
              omega
        have EG : fI w18 25 3 ≠ -6 → (∀ a b, a ≤ w18m → b ≤ w18m → rI w18 29 (6 * a + b) ≠ -6) ∧ bwV V (V (8 + 4 * b.toInt.toNat + 0)) w18m (rI w18 26) (rI w18 29) := fun e => by
          rcases w18p with ⟨q, -⟩ | ⟨q1, q2, q3⟩
          · exact absurd q e
          · exact ⟨q2, q1⟩
        clear w18p
        refine aw_step (f1 := (68, [some (.ref 0), some (.int b), some (.long x), none, some (.int i)], [(.int i)])) (w1 := w18) rfl rfl ?_
        refine s_i (pc1 := 69) (ls1 := [some (.ref 0), some (.int b), some (.long x), none, some (.int i)]) (st1 := [(.int i)]) rfl rfl fun x20 e21 => ?_
        have e21t : x20.toInt = -1 := by rw [e21]; rfl
        refine s_ic 84 72 rfl rfl rfl (fun (h22 : i.toInt = x20.toInt) => ?_) (fun (h22 : ¬ (i.toInt = x20.toInt)) => ?_)
        · --
          refine aw_step (f1 := (85, [some (.ref 0), some (.int b), some (.long x), none, some (.int i)], [(.ref 0)])) (w1 := w18) rfl rfl ?_
          refine s_gr 25 J19 88 rfl rfl rfl rfl rfl rfl ?_
          refine s_gi J19 91 rfl rfl rfl rfl rfl rfl fun x23 x23a x23b x23f => ?_
          have x23v : x23.toInt = fI w18 25 3 := (fI_of x23f).symm
          refine aw_ret (v := some (.int x23)) rfl rfl ?_
          refine ⟨J19, x23, rfl, Or.inr (Or.inr (Or.inr ⟨by omega, si.mp (by omega), by omega, ?_⟩))⟩
          by_cases e6 : fI w18 25 3 = -6
          · first
            | exact E6 e6 x23 (by omega)
            | (exfalso; omega)
          · obtain ⟨c1, c2⟩ := EG e6
            rcases bm with q | ⟨g, g1, g2, g3⟩
            · exact absurd q e6
            · refine ⟨w18m, rI w18 26, rI w18 29, w18x, w18P, c2, Or.inr ⟨c1, g, g1, ?_⟩⟩
              first
                | exact Or.inl ⟨by omega, by omega⟩
                | exact Or.inr (Or.inr ⟨by omega, by omega, by omega⟩)
                | exact Or.inr (Or.inl ⟨by omega, ⟨by omega, by omega⟩, by
                    rw [x23v, zzv, g3 i.toInt.toNat (by omega)]
                    rfl⟩)
        · --
          refine aw_step (f1 := (73, [some (.ref 0), some (.int b), some (.long x), none, some (.int i)], [(.ref 0)])) (w1 := w18) rfl rfl ?_
          refine s_gr 25 J19 76 rfl rfl rfl rfl rfl rfl ?_
          refine s_gi J19 79 rfl rfl rfl rfl rfl rfl fun x24 x24a x24b x24f => ?_
          have x24v : x24.toInt = fI w18 25 3 := (fI_of x24f).symm
          refine s_i (pc1 := 81) (ls1 := [some (.ref 0), some (.int b), some (.long x), none, some (.int i)]) (st1 := [(.int x24)]) rfl rfl fun x25 e26 => ?_
          have e26t : x25.toInt = -6 := by rw [e26]; rfl
          refine s_ic 92 84 rfl rfl rfl (fun (h27 : ¬ x24.toInt = x25.toInt) => ?_) (fun (h27 : ¬ (¬ x24.toInt = x25.toInt)) => ?_)
          · --
            refine aw_step (f1 := (94, [some (.ref 0), some (.int b), some (.long x), none, some (.int i)], [(.int i)])) (w1 := w18) rfl rfl ?_
            refine s_if 130 97 rfl rfl rfl (fun (h28 : i.toInt < 0) => ?_) (fun (h28 : ¬ (i.toInt < 0)) => ?_)
            · --
              refine s_i (pc1 := 132) (ls1 := [some (.ref 0), some (.int b), some (.long x), none, some (.int i)]) (st1 := []) rfl rfl fun x29 e30 => ?_
              have e30t : x29.toInt = -6 := by rw [e30]; rfl
              refine aw_ret (v := some (.int x29)) rfl rfl ?_
              refine ⟨J19, x29, rfl, Or.inr (Or.inr (Or.inr ⟨by omega, si.mp (by omega), by omega, ?_⟩))⟩
              by_cases e6 : fI w18 25 3 = -6
              · first
                | exact E6 e6 x29 (by omega)
                | (exfalso; omega)
              · obtain ⟨c1, c2⟩ := EG e6
                rcases bm with q | ⟨g, g1, g2, g3⟩
                · exact absurd q e6
                · refine ⟨w18m, rI w18 26, rI w18 29, w18x, w18P, c2, Or.inr ⟨c1, g, g1, ?_⟩⟩
                  first
                    | exact Or.inl ⟨by omega, by omega⟩
                    | exact Or.inr (Or.inr ⟨by omega, by omega, by omega⟩)
                    | exact Or.inr (Or.inl ⟨by omega, ⟨by omega, by omega⟩, by
                        rw [x29v, zzv, g3 i.toInt.toNat (by omega)]
                        rfl⟩)
            · --
              refine aw_step (f1 := (99, [some (.ref 0), some (.int b), some (.long x), none, some (.int i)], [(.int i)])) (w1 := w18) rfl rfl ?_
              refine aw_step (f1 := (100, [some (.ref 0), some (.int b), some (.long x), none, some (.int i)], [(.ref 0), (.int i)])) (w1 := w18) rfl rfl ?_
              refine s_gr 25 J19 103 rfl rfl rfl rfl rfl rfl ?_
              refine s_gi J19 106 rfl rfl rfl rfl rfl rfl fun x31 x31a x31b x31f => ?_
              have x31v : x31.toInt = fI w18 25 2 := (fI_of x31f).symm
              refine s_ic 130 109 rfl rfl rfl (fun (h32 : x31.toInt ≤ i.toInt) => ?_) (fun (h32 : ¬ (x31.toInt ≤ i.toInt)) => ?_)
              · --
                refine s_i (pc1 := 132) (ls1 := [some (.ref 0), some (.int b), some (.long x), none, some (.int i)]) (st1 := []) rfl rfl fun x33 e34 => ?_
                have e34t : x33.toInt = -6 := by rw [e34]; rfl
                refine aw_ret (v := some (.int x33)) rfl rfl ?_
                refine ⟨J19, x33, rfl, Or.inr (Or.inr (Or.inr ⟨by omega, si.mp (by omega), by omega, ?_⟩))⟩
                by_cases e6 : fI w18 25 3 = -6
                · first
                  | exact E6 e6 x33 (by omega)
                  | (exfalso; omega)
                · obtain ⟨c1, c2⟩ := EG e6
                  rcases bm with q | ⟨g, g1, g2, g3⟩
                  · exact absurd q e6
                  · refine ⟨w18m, rI w18 26, rI w18 29, w18x, w18P, c2, Or.inr ⟨c1, g, g1, ?_⟩⟩
                    first
                      | exact Or.inl ⟨by omega, by omega⟩
                      | exact Or.inr (Or.inr ⟨by omega, by omega, by omega⟩)
                      | exact Or.inr (Or.inl ⟨by omega, ⟨by omega, by omega⟩, by
                          rw [x33v, zzv, g3 i.toInt.toNat (by omega)]
                          rfl⟩)
              · --
                refine aw_step (f1 := (110, [some (.ref 0), some (.int b), some (.long x), none, some (.int i)], [(.ref 0)])) (w1 := w18) rfl rfl ?_
                refine s_gr 25 J19 113 rfl rfl rfl rfl rfl rfl ?_
                refine s_gr 26 J19 116 rfl rfl rfl rfl rfl rfl ?_
                refine aw_step (f1 := (117, [some (.ref 0), some (.int b), some (.long x), none, some (.int i)], [(.ref 0), (.ref 26)])) (w1 := w18) rfl rfl ?_
                refine s_gr 25 J19 120 rfl rfl rfl rfl rfl rfl ?_
                refine s_gr 27 J19 123 rfl rfl rfl rfl rfl rfl ?_
                refine aw_step (f1 := (125, [some (.ref 0), some (.int b), some (.long x), none, some (.int i)], [(.int i), (.ref 27), (.ref 26)])) (w1 := w18) rfl rfl ?_
                refine s_ia J19 126 rfl rfl rfl rfl (by omega) (by omega) fun x35 x35a x35b x35f => ?_
                have x35v : x35.toInt = rI w18 27 i.toInt.toNat := (rI_of x35f).symm
                --
                refine s_ia J19 127 rfl rfl rfl rfl (by omega) (by omega) fun x36 x36a x36b x36f => ?_
                have x36v : x36.toInt = rI w18 26 x35.toInt.toNat := (rI_of x36f).symm
                refine aw_step (f1 := (132, [some (.ref 0), some (.int b), some (.long x), none, some (.int i)], [(.int x36)])) (w1 := w18) rfl rfl ?_
                refine aw_ret (v := some (.int x36)) rfl rfl ?_
                refine ⟨J19, x36, rfl, Or.inr (Or.inr (Or.inr ⟨by omega, si.mp (by omega), by omega, ?_⟩))⟩
                by_cases e6 : fI w18 25 3 = -6
                · first
                  | exact E6 e6 x36 (by omega)
                  | (exfalso; omega)
                · obtain ⟨c1, c2⟩ := EG e6
                  rcases bm with q | ⟨g, g1, g2, g3⟩
                  · exact absurd q e6
                  · refine ⟨w18m, rI w18 26, rI w18 29, w18x, w18P, c2, Or.inr ⟨c1, g, g1, ?_⟩⟩
                    first
                      | exact Or.inl ⟨by omega, by omega⟩
                      | exact Or.inr (Or.inr ⟨by omega, by omega, by omega⟩)
                      | exact Or.inr (Or.inl ⟨by omega, ⟨by omega, by omega⟩, by
                          rw [x36v, x35v, g3 i.toInt.toNat (by omega)]
                          rfl⟩)
          · --
            refine aw_step (f1 := (85, [some (.ref 0), some (.int b), some (.long x), none, some (.int i)], [(.ref 0)])) (w1 := w18) rfl rfl ?_
            refine s_gr 25 J19 88 rfl rfl rfl rfl rfl rfl ?_
            refine s_gi J19 91 rfl rfl rfl rfl rfl rfl fun x37 x37a x37b x37f => ?_
            have x37v : x37.toInt = fI w18 25 3 := (fI_of x37f).symm
            refine aw_ret (v := some (.int x37)) rfl rfl ?_
            refine ⟨J19, x37, rfl, Or.inr (Or.inr (Or.inr ⟨by omega, si.mp (by omega), by omega, ?_⟩))⟩
            by_cases e6 : fI w18 25 3 = -6
            · first
              | exact E6 e6 x37 (by omega)
              | (exfalso; omega)
            · obtain ⟨c1, c2⟩ := EG e6
              rcases bm with q | ⟨g, g1, g2, g3⟩
              · exact absurd q e6
              · refine ⟨w18m, rI w18 26, rI w18 29, w18x, w18P, c2, Or.inr ⟨c1, g, g1, ?_⟩⟩
                first
                  | exact Or.inl ⟨by omega, by omega⟩
                  | exact Or.inr (Or.inr ⟨by omega, by omega, by omega⟩)
                  | exact Or.inr (Or.inl ⟨by omega, ⟨by omega, by omega⟩, by
                      rw [x37v, x35v, g3 i.toInt.toNat (by omega)]
                      rfl⟩)
      · --
        refine s_i (pc1 := 40) (ls1 := [some (.ref 0), some (.int b), some (.long x), none, some (.int i)]) (st1 := []) rfl rfl fun x38 e39 => ?_
        have e39t : x38.toInt = -4 := by rw [e39]; rfl
        refine aw_ret (v := some (.int x38)) rfl rfl ?_
        first
          | exact ⟨J, x38, rfl, Or.inl ⟨by omega, by omega⟩⟩
          | exact ⟨J, x38, rfl, Or.inr (Or.inl ⟨by omega, by omega, fun q => by have := si.mpr q; omega⟩)⟩
          | exact ⟨J, x38, rfl, Or.inr (Or.inr (Or.inl ⟨by omega, by omega, si.mp (by omega), by omega⟩))⟩
    · --
      refine s_i (pc1 := 29) (ls1 := [some (.ref 0), some (.int b), some (.long x), none, some (.int i)]) (st1 := []) rfl rfl fun x40 e41 => ?_
      have e41t : x40.toInt = -2 := by rw [e41]; rfl
      refine aw_ret (v := some (.int x40)) rfl rfl ?_
      first
        | exact ⟨J, x40, rfl, Or.inl ⟨by omega, by omega⟩⟩
        | exact ⟨J, x40, rfl, Or.inr (Or.inl ⟨by omega, by omega, fun q => by have := si.mpr q; omega⟩)⟩
        | exact ⟨J, x40, rfl, Or.inr (Or.inr (Or.inl ⟨by omega, by omega, si.mp (by omega), by omega⟩))⟩
  · --
    refine s_i (pc1 := 8) (ls1 := [some (.ref 0), some (.int b), some (.long x), none, some (.int i)]) (st1 := []) rfl rfl fun x42 e43 => ?_
    have e43t : x42.toInt = -1 := by rw [e43]; rfl
    refine aw_ret (v := some (.int x42)) rfl rfl ?_
    first
      | exact ⟨J, x42, rfl, Or.inl ⟨by omega, by omega⟩⟩
      | exact ⟨J, x42, rfl, Or.inr (Or.inl ⟨by omega, by omega, fun q => by have := si.mpr q; omega⟩)⟩
      | exact ⟨J, x42, rfl, Or.inr (Or.inr (Or.inl ⟨by omega, by omega, si.mp (by omega), by omega⟩))⟩
