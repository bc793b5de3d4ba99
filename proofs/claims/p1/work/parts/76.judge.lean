/-! ===== judge ===== -/
noncomputable def wrV (V : Nat → Int) (t : Int) : Int := if V (40 + t.toNat) = 94 then 2 else 1
theorem wrV_b (V : Nat → Int) (t : Int) : 1 ≤ wrV V t ∧ wrV V t ≤ 2 := by unfold wrV; split <;> omega
noncomputable def toV (V : Nat → Int) (f d : Int) : Int := d * V 1 + (f - 97)
noncomputable def chB (V : Nat → Int) (a : Int) : Nat := bt (n64 (Int64.ofInt (V 3))) a.toNat
/-- a part of a walk: st is (at, on, taken, wear ..), z why it can't be, or 0 -/
noncomputable def jS (V st : Nat → Int) (f d z : Int) (st' : Nat → Int) : Prop :=
  (f = 35 ∧ z = 5 ∧ (chB V (st 0) = 0 ∨ d = st 1) ∧ st' = st) ∨
  (f = 35 ∧ z = 0 ∧ chB V (st 0) = 1 ∧ d ≠ st 1 ∧ st' = upv st 1 d) ∨
  (f ≠ 35 ∧ z = 1 ∧ (V 1 ≤ f - 97 ∨ V 0 ≤ d) ∧ st' = st) ∨
  (f ≠ 35 ∧ z = 2 ∧ (f - 97 < V 1 ∧ d < V 0) ∧ V (40 + (toV V f d).toNat) = 126 ∧ st' = st) ∨
  (f ≠ 35 ∧ z = 3 ∧ (f - 97 < V 1 ∧ d < V 0) ∧ V (40 + (toV V f d).toNat) ≠ 126 ∧ sqM (V 1) (st 0) (toV V f d) ≠ V (8 + 4 * (st 1).toNat + 0) ∧ st' = st) ∨
  (f ≠ 35 ∧ z = 4 ∧ (f - 97 < V 1 ∧ d < V 0) ∧ V (40 + (toV V f d).toNat) ≠ 126 ∧ sqM (V 1) (st 0) (toV V f d) = V (8 + 4 * (st 1).toNat + 0) ∧ V (8 + 4 * (st 1).toNat + 1) < st (3 + (st 1).toNat) + wrV V (toV V f d) ∧ st' = st) ∨
  (f ≠ 35 ∧ z = 0 ∧ (f - 97 < V 1 ∧ d < V 0) ∧ V (40 + (toV V f d).toNat) ≠ 126 ∧ sqM (V 1) (st 0) (toV V f d) = V (8 + 4 * (st 1).toNat + 0) ∧ st (3 + (st 1).toNat) + wrV V (toV V f d) ≤ V (8 + 4 * (st 1).toNat + 1) ∧ st' = upv (upv (upv st (3 + (st 1).toNat) (st (3 + (st 1).toNat) + wrV V (toV V f d))) 2 (st 2 + 1)) 0 (toV V f d))
theorem jS.uniq {V st s1 s2 : Nat → Int} {f d y z : Int} (h : jS V st f d y s1) (g : jS V st f d z s2) : z = y ∧ s2 = s1 := by
  have bl := bt_le (n64 (Int64.ofInt (V 3))) (st 0).toNat
  have bl : chB V (st 0) ≤ 1 := bl
  rcases h with ⟨h1, h2, h3, hS⟩ | ⟨h1, h2, h3, h4, hS⟩ | ⟨h1, h2, h3, hS⟩ | ⟨h1, h2, h3, h4, hS⟩ | ⟨h1, h2, h3, h4, h5, hS⟩ | ⟨h1, h2, h3, h4, h5, h6, hS⟩ | ⟨h1, h2, h3, h4, h5, h6, hS⟩ <;> rcases g with ⟨g1, g2, g3, gS⟩ | ⟨g1, g2, g3, g4, gS⟩ | ⟨g1, g2, g3, gS⟩ | ⟨g1, g2, g3, g4, gS⟩ | ⟨g1, g2, g3, g4, g5, gS⟩ | ⟨g1, g2, g3, g4, g5, g6, gS⟩ | ⟨g1, g2, g3, g4, g5, g6, gS⟩
  all_goals first
    | (exfalso; clear hS gS; omega)
    | exact ⟨by clear hS gS; omega, by rw [hS, gS]⟩
noncomputable def j0 (V : Nat → Int) : Nat → Int := fun j => if j = 0 then V 2 else 0
noncomputable def jW (V P : Nat → Int) : Nat → (Nat → Int) → Prop
  | 0, st => st = j0 V
  | k + 1, st => ∃ s, jW V P k s ∧ jS V s (P (2 * k)) (P (2 * k + 1) - 48) 0 st
theorem jW.uniq {V P : Nat → Int} : ∀ {k : Nat} {a b : Nat → Int}, jW V P k a → jW V P k b → a = b
  | 0, a, b, h, g => by have h : a = j0 V := h; have g : b = j0 V := g; rw [h, g]
  | k + 1, a, b, ⟨s, h1, h2⟩, ⟨t, g1, g2⟩ => by
    have e := jW.uniq h1 g1
    subst e
    exact (jS.uniq g2 h2).2
theorem jW.low {V P : Nat → Int} {m : Nat} : ∀ {k : Nat} {a : Nat → Int}, jW V P k a → m < k → ∃ s t, jW V P m s ∧ jS V s (P (2 * m)) (P (2 * m + 1) - 48) 0 t
  | 0, a, h, z => by omega
  | k + 1, a, ⟨s, h1, h2⟩, z => by
    by_cases e : m = k
    · rw [e]; exact ⟨s, a, h1, h2⟩
    · exact jW.low h1 (by omega)
noncomputable def jB (V st : Nat → Int) (k : Int) : Prop := (0 ≤ st 0 ∧ st 0 < szV V) ∧ (0 ≤ st 1 ∧ st 1 ≤ 3) ∧ (0 ≤ st 2 ∧ st 2 ≤ k) ∧ ∀ b : Nat, b < 4 → 0 ≤ st (3 + b) ∧ st (3 + b) ≤ 2 * k
theorem toV_in {V : Nat → Int} {f d : Int} (hv : (1 ≤ V 0 ∧ V 0 ≤ 6) ∧ 1 ≤ V 1 ∧ V 1 ≤ 6) (h1 : 97 ≤ f) (h2 : 0 ≤ d) (h3 : f - 97 < V 1 ∧ d < V 0) : 0 ≤ toV V f d ∧ toV V f d < szV V := by
  have m := mu_6 (r := d) (b := V 1) (a := V 0) hv.2.1 hv.2.2 h2 h3.2 hv.1.2
  unfold toV szV
  omega
theorem jB.st {V st st' : Nat → Int} {f d k : Int} (h : jB V st k) (hv : (1 ≤ V 0 ∧ V 0 ≤ 6) ∧ 1 ≤ V 1 ∧ V 1 ≤ 6) (hf : (f = 35 ∧ 0 ≤ d ∧ d ≤ 3) ∨ (97 ≤ f ∧ 0 ≤ d)) (g : jS V st f d 0 st') : jB V st' (k + 1) := by
  obtain ⟨b1, b2, b3, b4⟩ := h
  have wb := wrV_b V (toV V f d)
  rcases g with ⟨g1, g2, -⟩ | ⟨g1, g2, g3, g4, gS⟩ | ⟨g1, g2, -⟩ | ⟨g1, g2, -⟩ | ⟨g1, g2, -⟩ | ⟨g1, g2, -⟩ | ⟨g1, g2, g3, g4, g5, g6, gS⟩
  · omega
  · rw [gS]
    refine ⟨by rw [upv_n (by decide)]; exact b1, by rw [upv_s]; omega, by rw [upv_n (by decide)]; omega, fun b hb => ?_⟩
    have := b4 b hb
    rw [upv_n (by omega)]
    omega
  · omega
  · omega
  · omega
  · omega
  · have ti := toV_in hv (by omega) (by omega) g3
    have c := b4 (st 1).toNat (by omega)
    rw [gS]
    refine ⟨by rw [upv_s]; exact ti, by rw [upv_n (by decide), upv_n (by decide), upv_n (by omega)]; exact b2, by rw [upv_n (by decide), upv_s]; omega, fun b hb => ?_⟩
    have e := b4 b hb
    rw [upv_n (by omega), upv_n (by omega)]
    by_cases z : b = (st 1).toNat
    · rw [z, upv_s]; omega
    · rw [upv_n (by omega)]; omega
noncomputable def jE (V P : Nat → Int) (N : Nat) (part why : Int) (st : Nat → Int) : Prop := (part = -6 ∧ why = -6 ∧ jW V P N st) ∨ ∃ k : Nat, k < N ∧ part = k ∧ jW V P k st ∧ 0 < why ∧ ∃ st', jS V st (P (2 * k)) (P (2 * k + 1) - 48) why st'
theorem jE.uniq {V P : Nat → Int} {N : Nat} {p q y z : Int} {s t : Nat → Int} (h : jE V P N p y s) (g : jE V P N q z t) : q = p ∧ z = y ∧ t = s := by
  have key : ∀ {k m : Nat} {s t st' : Nat → Int} {y : Int}, jW V P k s → jS V s (P (2 * k)) (P (2 * k + 1) - 48) y st' → 0 < y → jW V P m t → ¬ k < m := fun {k m s t st' y} a b c d e => by
    obtain ⟨s1, t1, u1, u2⟩ := jW.low d e
    have := jW.uniq a u1
    subst this
    have := (jS.uniq u2 b).1
    omega
  rcases h with ⟨h1, h2, h3⟩ | ⟨k, h1, h2, h3, h4, s', h5⟩ <;> rcases g with ⟨g1, g2, g3⟩ | ⟨m, g1, g2, g3, g4, t', g5⟩
  · exact ⟨by omega, by omega, jW.uniq g3 h3⟩
  · exact absurd g1 (key g3 g5 g4 h3)
  · exact absurd h1 (key h3 h5 h4 g3)
  · have e1 := key h3 h5 h4 g3
    have e2 := key g3 g5 g4 h3
    have e : m = k := by omega
    subst e
    have f := jW.uniq h3 g3
    subst f
    exact ⟨by omega, (jS.uniq h5 g5).1, rfl⟩
noncomputable def wlk (P : Nat → Int) (n : Int) : Prop := n % 2 = 0 ∧ ∀ j : Nat, (j : Int) < n → okW P j
theorem fltW_ok {P : Nat → Int} {n z : Int} (h : fltW P n z) (h0 : 0 ≤ n) : (z = -6 ∧ wlk P n) ∨ (0 ≤ z ∧ ¬ wlk P n) := by
  rcases h with ⟨a, b, c⟩ | ⟨a, b, c, d⟩ | ⟨a, b, c⟩
  · exact Or.inl ⟨a, b, c⟩
  · exact Or.inr ⟨a, fun q => d (q.2 z.toNat (by omega))⟩
  · exact Or.inr ⟨by omega, fun q => by have := q.1; omega⟩
noncomputable def judV (wh part why : Int) (st : Nat → Int) (z : Int) : Prop := (part ≠ -6 ∧ 2 ≤ wh ∧ z = -3) ∨ (wh = 0 ∧ z = part) ∨ (wh = 1 ∧ z = why) ∨ (part = -6 ∧ wh = 2 ∧ z = st 0) ∨ (part = -6 ∧ wh = 3 ∧ z = st 2) ∨ (part = -6 ∧ 4 ≤ wh ∧ z = st (3 + (wh - 4).toNat))
noncomputable def judP (V : Nat → Int) (n : Int) (P : Nat → Int) (wh z : Int) : Prop := (z = -2 ∧ (wh < 0 ∨ 7 < wh)) ∨ ((0 ≤ wh ∧ wh ≤ 7) ∧ z = -5 ∧ ¬ wlk P n) ∨ ((0 ≤ wh ∧ wh ≤ 7) ∧ wlk P n ∧ ∃ part why st, jE V P (n / 2).toNat part why st ∧ judV wh part why st z)
theorem U_judge {V P : Nat → Int} {n wh z z2 : Int} (h : judP V n P wh z) (g : judP V n P wh z2) : z2 = z := by
  rcases h with h | ⟨h1, h2, h3⟩ | ⟨h1, h2, p, y, s, h3, h4⟩ <;> rcases g with g | ⟨g1, g2, g3⟩ | ⟨g1, g2, q, x, t, g3, g4⟩
  · omega
  · omega
  · omega
  · omega
  · omega
  · exact absurd g2 h3
  · omega
  · exact absurd h2 g3
  · obtain ⟨e1, e2, e3⟩ := jE.uniq h3 g3
    subst e1
    subst e2
    subst e3
    unfold judV at h4 g4
    omega
/-! the class -/
noncomputable def JC (w : am_W) (st : Nat → Int) : Prop := fI w 16 2 = st 0 ∧ fI w 16 3 = st 1 ∧ fI w 16 4 = st 2 ∧ ∀ b : Nat, b < 4 → rI w 17 b = st (3 + b)
noncomputable def JM (w : am_W) (st : Nat → Int) : Prop := fI w 65 22 = st 0 ∧ fI w 65 23 = st 1 ∧ fI w 65 24 = st 2 ∧ ∀ b : Nat, b < 4 → rI w 76 b = st (3 + b)
theorem e_fill17L {d : Nat} {w00 : am_W} (v m : Int32) (hm : m.toInt = 4) : ∀ (k : Nat) (w : am_W) (i : Int32), (4 - i.toInt).toNat < k → 0 ≤ i.toInt → i.toInt ≤ 4 → ab_J ab_TT ab_sets ab_WR w00 w → only [17] w00 w → (∀ j : Nat, (j : Int) < i.toInt → rI w 17 j = v.toInt) → aw none d 192 (fun r w1 => r = none ∧ ab_J ab_TT ab_sets ab_WR w00 w1 ∧ only [17] w00 w1 ∧ ∀ j : Nat, j < 4 → rI w1 17 j = v.toInt) (5, [some (.ref 17), some (.int v), some (.int i), some (.int m)], []) w := by
  have va := ab_any32 v
  unfold ab_lo32 ab_hi32 at va
  intro k
  induction k with
  | zero => intro w i p; omega
  | succ k ih =>
    intro w i p1 p2 p3 J O F
    refine aw_step (f1 := (6, [some (.ref 17), some (.int v), some (.int i), some (.int m)], [(.int i)])) (w1 := w) rfl rfl ?_
    refine aw_step (f1 := (7, [some (.ref 17), some (.int v), some (.int i), some (.int m)], [(.int m), (.int i)])) (w1 := w) rfl rfl ?_
    refine s_ic 20 10 rfl rfl rfl (fun (h1 : m.toInt ≤ i.toInt) => ?_) (fun (h1 : ¬ (m.toInt ≤ i.toInt)) => ?_)
    · --
      refine aw_ret (v := none) rfl rfl ?_
      exact ⟨rfl, J, O, fun j hj => F j (by omega)⟩
    · --
      refine aw_step (f1 := (11, [some (.ref 17), some (.int v), some (.int i), some (.int m)], [(.ref 17)])) (w1 := w) rfl rfl ?_
      refine aw_step (f1 := (12, [some (.ref 17), some (.int v), some (.int i), some (.int m)], [(.int i), (.ref 17)])) (w1 := w) rfl rfl ?_
      refine aw_step (f1 := (13, [some (.ref 17), some (.int v), some (.int i), some (.int m)], [(.int v), (.int i), (.ref 17)])) (w1 := w) rfl rfl ?_
      refine s_is J 14 rfl rfl rfl rfl (by omega) (by omega) (by omega) (by omega) fun w2 J3 w2e => ?_
      have w2f := rI_st J.1 (p := 17) (j := i.toInt.toNat) rfl (by omega) w2e
      refine aw_step (f1 := (17, [some (.ref 17), some (.int v), some (.int (i + Int32.ofInt 1)), some (.int m)], [])) (w1 := w2) rfl rfl ?_
      obtain ⟨x4, x4e⟩ : ∃ z, z = (i + Int32.ofInt 1) := ⟨_, rfl⟩
      have x4t : x4.toInt = i.toInt + (1) := by rw [x4e]; exact n_add (y := Int32.ofInt (1)) (by show _ ≤ _ + (1 : Int); omega) (by show _ + (1 : Int) ≤ _; omega)
      rw [← x4e]
      refine aw_step (f1 := (5, [some (.ref 17), some (.int v), some (.int x4), some (.int m)], [])) (w1 := w2) rfl rfl ?_
      refine ih w2 x4 (by omega) (by omega) (by omega) J3 (O.trans w2f.1) (fun j hj => ?_)
      by_cases q : j = i.toInt.toNat
      · rw [q]; exact w2f.2.1
      · rw [w2f.2.2 j q]; exact F j (by omega)
theorem e_fill17 {d : Nat} {w : am_W} (v : Int32) (I : ab_inv ab_TT ab_sets w) : aw none d 192 (fun r w1 => r = none ∧ ab_J ab_TT ab_sets ab_WR w w1 ∧ only [17] w w1 ∧ ∀ j : Nat, j < 4 → rI w1 17 j = v.toInt) (0, am_entry 192 [.ref 17, .int v], []) w := by
  have J : ab_J ab_TT ab_sets ab_WR w w := ⟨I, ab_fr.rf⟩
  show aw none d 192 _ (0, [some (.ref 17), some (.int v), none, none], []) w
  refine s_i (pc1 := 1) (ls1 := [some (.ref 17), some (.int v), none, none]) (st1 := []) rfl rfl fun x1 e2 => ?_
  have e2t : x1.toInt = 0 := by rw [e2]; rfl
  refine aw_step (f1 := (2, [some (.ref 17), some (.int v), some (.int x1), none], [])) (w1 := w) rfl rfl ?_
  refine aw_step (f1 := (3, [some (.ref 17), some (.int v), some (.int x1), none], [(.ref 17)])) (w1 := w) rfl rfl ?_
  refine s_al J 4 rfl rfl rfl rfl (by decide) fun x3 x3t => ?_
  refine aw_step (f1 := (5, [some (.ref 17), some (.int v), some (.int x1), some (.int x3)], [])) (w1 := w) rfl rfl ?_
  exact e_fill17L v x3 (by omega) 5 w x1 (by omega) (by omega) (by omega) J only.rf (fun j hj => by omega)
theorem e_sqB {d : Nat} {w : am_W} {V : Nat → Int} (R : RCs w 3 V) (a c : Int32) (ha : 0 ≤ a.toInt ∧ a.toInt < szV V) (hc : 0 ≤ c.toInt ∧ c.toInt < szV V) (I : ab_inv ab_TT ab_sets w) : aw none d 43 (fun r w1 => w = w1 ∧ ∃ z : Int32, r = some (.int z) ∧ z.toInt = sqM (V 1) a.toInt c.toInt) (0, am_entry 43 [.ref 3, .int a, .int c], []) w := by
  have J : ab_J ab_TT ab_sets ab_WR w w := ⟨I, ab_fr.rf⟩
  have szc := szC_in I
  have hsz := R.sz
  have f0 := R.f0
  have f1 := R.f1
  have b0 := fI_in (p := 3) (k := 0) I rfl rfl
  have b1 := fI_in (p := 3) (k := 1) I rfl rfl
  obtain ⟨-, ar, ac⟩ := R.2.1 a.toInt.toNat (by omega)
  obtain ⟨-, cr, cc⟩ := R.2.1 c.toInt.toNat (by omega)
  rw [show ((a.toInt.toNat : Nat) : Int) = a.toInt by omega] at ar ac
  rw [show ((c.toInt.toNat : Nat) : Int) = c.toInt by omega] at cr cc
  have ar : rI w 5 a.toInt.toNat = a.toInt / V 1 := ar
  have ac : rI w 6 a.toInt.toNat = a.toInt % V 1 := ac
  have cr : rI w 5 c.toInt.toNat = c.toInt / V 1 := cr
  have cc : rI w 6 c.toInt.toNat = c.toInt % V 1 := cc
  show aw none d 43 _ (0, [some (.ref 3), some (.int a), some (.int c), none, none], []) w
  refine aw_step (f1 := (1, [some (.ref 3), some (.int a), some (.int c), none, none], [(.ref 3)])) (w1 := w) rfl rfl ?_
  refine s_gr 5 J 4 rfl rfl rfl rfl rfl rfl ?_
  refine aw_step (f1 := (5, [some (.ref 3), some (.int a), some (.int c), none, none], [(.int a), (.ref 5)])) (w1 := w) rfl rfl ?_
  refine s_ia J 6 rfl rfl rfl rfl (by omega) (by omega) fun x1 x1a x1b x1f => ?_
  have x1v : x1.toInt = rI w 5 a.toInt.toNat := by rw [← rI_of x1f]
  refine aw_step (f1 := (7, [some (.ref 3), some (.int a), some (.int c), none, none], [(.ref 3), (.int x1)])) (w1 := w) rfl rfl ?_
  refine s_gr 5 J 10 rfl rfl rfl rfl rfl rfl ?_
  refine aw_step (f1 := (11, [some (.ref 3), some (.int a), some (.int c), none, none], [(.int c), (.ref 5), (.int x1)])) (w1 := w) rfl rfl ?_
  refine s_ia J 12 rfl rfl rfl rfl (by omega) (by omega) fun x2 x2a x2b x2f => ?_
  have x2v : x2.toInt = rI w 5 c.toInt.toNat := by rw [← rI_of x2f]
  refine s_i (pc1 := 13) (ls1 := [some (.ref 3), some (.int a), some (.int c), none, none]) (st1 := []) rfl rfl fun x3 e4 => ?_
  have e4 : x3 = x1 - x2 := e4
  have e4t : x3.toInt = x1.toInt - x2.toInt := by rw [e4]; exact n_sub (by omega) (by omega)
  refine aw_step (f1 := (14, [some (.ref 3), some (.int a), some (.int c), some (.int x3), none], [])) (w1 := w) rfl rfl ?_
  refine aw_step (f1 := (15, [some (.ref 3), some (.int a), some (.int c), some (.int x3), none], [(.ref 3)])) (w1 := w) rfl rfl ?_
  refine s_gr 6 J 18 rfl rfl rfl rfl rfl rfl ?_
  refine aw_step (f1 := (19, [some (.ref 3), some (.int a), some (.int c), some (.int x3), none], [(.int a), (.ref 6)])) (w1 := w) rfl rfl ?_
  refine s_ia J 20 rfl rfl rfl rfl (by omega) (by omega) fun x5 x5a x5b x5f => ?_
  have x5v : x5.toInt = rI w 6 a.toInt.toNat := by rw [← rI_of x5f]
  refine aw_step (f1 := (21, [some (.ref 3), some (.int a), some (.int c), some (.int x3), none], [(.ref 3), (.int x5)])) (w1 := w) rfl rfl ?_
  refine s_gr 6 J 24 rfl rfl rfl rfl rfl rfl ?_
  refine aw_step (f1 := (25, [some (.ref 3), some (.int a), some (.int c), some (.int x3), none], [(.int c), (.ref 6), (.int x5)])) (w1 := w) rfl rfl ?_
  refine s_ia J 26 rfl rfl rfl rfl (by omega) (by omega) fun x6 x6a x6b x6f => ?_
  have x6v : x6.toInt = rI w 6 c.toInt.toNat := by rw [← rI_of x6f]
  refine s_i (pc1 := 27) (ls1 := [some (.ref 3), some (.int a), some (.int c), some (.int x3), none]) (st1 := []) rfl rfl fun x7 e8 => ?_
  have e8 : x7 = x5 - x6 := e8
  have e8t : x7.toInt = x5.toInt - x6.toInt := by rw [e8]; exact n_sub (by omega) (by omega)
  refine aw_step (f1 := (29, [some (.ref 3), some (.int a), some (.int c), some (.int x3), some (.int x7)], [])) (w1 := w) rfl rfl ?_
  refine aw_step (f1 := (30, [some (.ref 3), some (.int a), some (.int c), some (.int x3), some (.int x7)], [(.int x3)])) (w1 := w) rfl rfl ?_
  refine aw_step (f1 := (31, [some (.ref 3), some (.int a), some (.int c), some (.int x3), some (.int x7)], [(.int x3), (.int x3)])) (w1 := w) rfl rfl ?_
  refine s_i (pc1 := 32) (ls1 := [some (.ref 3), some (.int a), some (.int c), some (.int x3), some (.int x7)]) (st1 := []) rfl rfl fun x9 e10 => ?_
  have e10 : x9 = x3 * x3 := e10
  have d1 := sq_b (r := x3.toInt) (by omega) (by omega)
  have p1 : x9.toInt = (a.toInt / V 1 - c.toInt / V 1) * (a.toInt / V 1 - c.toInt / V 1) := by rw [e10, n_mul (by omega) (by omega), show x3.toInt = a.toInt / V 1 - c.toInt / V 1 by omega]
  rw [show x3.toInt = a.toInt / V 1 - c.toInt / V 1 by omega] at d1
  refine aw_step (f1 := (34, [some (.ref 3), some (.int a), some (.int c), some (.int x3), some (.int x7)], [(.int x7), (.int x9)])) (w1 := w) rfl rfl ?_
  refine aw_step (f1 := (36, [some (.ref 3), some (.int a), some (.int c), some (.int x3), some (.int x7)], [(.int x7), (.int x7), (.int x9)])) (w1 := w) rfl rfl ?_
  refine s_i (pc1 := 37) (ls1 := [some (.ref 3), some (.int a), some (.int c), some (.int x3), some (.int x7)]) (st1 := [(.int x9)]) rfl rfl fun x11 e12 => ?_
  have e12 : x11 = x7 * x7 := e12
  have d2 := sq_b (r := x7.toInt) (by omega) (by omega)
  have p2 : x11.toInt = (a.toInt % V 1 - c.toInt % V 1) * (a.toInt % V 1 - c.toInt % V 1) := by rw [e12, n_mul (by omega) (by omega), show x7.toInt = a.toInt % V 1 - c.toInt % V 1 by omega]
  rw [show x7.toInt = a.toInt % V 1 - c.toInt % V 1 by omega] at d2
  refine s_i (pc1 := 38) (ls1 := [some (.ref 3), some (.int a), some (.int c), some (.int x3), some (.int x7)]) (st1 := []) rfl rfl fun x13 e14 => ?_
  have e14 : x13 = x9 + x11 := e14
  have e14t : x13.toInt = x9.toInt + x11.toInt := by rw [e14]; exact n_add (by omega) (by omega)
  refine aw_ret (v := some (.int x13)) rfl rfl ?_
  exact ⟨rfl, x13, rfl, by unfold sqM; omega⟩
theorem e_wearAt {d : Nat} {w : am_W} {V : Nat → Int} (R : RCs w 3 V) (c : Int32) (hc : 0 ≤ c.toInt ∧ c.toInt < szV V) (I : ab_inv ab_TT ab_sets w) : aw none d 42 (fun r w1 => w = w1 ∧ ∃ z : Int32, r = some (.int z) ∧ z.toInt = wrV V c.toInt) (0, am_entry 42 [.ref 3, .int c], []) w := by
  have J : ab_J ab_TT ab_sets ab_WR w w := ⟨I, ab_fr.rf⟩
  have szc := szC_in I
  have hsz := R.sz
  have sg : rI w 4 c.toInt.toNat = V (40 + c.toInt.toNat) := (R.2.1 c.toInt.toNat (by omega)).1
  show aw none d 42 _ (0, [some (.ref 3), some (.int c)], []) w
  refine aw_step (f1 := (1, [some (.ref 3), some (.int c)], [(.ref 3)])) (w1 := w) rfl rfl ?_
  refine s_gr 4 J 4 rfl rfl rfl rfl rfl rfl ?_
  refine aw_step (f1 := (5, [some (.ref 3), some (.int c)], [(.int c), (.ref 4)])) (w1 := w) rfl rfl ?_
  refine s_ia J 6 rfl rfl rfl rfl (by omega) (by omega) fun x1 x1a x1b x1f => ?_
  have x1v : x1.toInt = rI w 4 c.toInt.toNat := by rw [← rI_of x1f]
  refine s_i (pc1 := 8) (ls1 := [some (.ref 3), some (.int c)]) (st1 := [(.int x1)]) rfl rfl fun x2 e3 => ?_
  have e3t : x2.toInt = 94 := by rw [e3]; rfl
  refine s_ic 15 11 rfl rfl rfl (fun (h4 : ¬ x1.toInt = x2.toInt) => ?_) (fun (h4 : ¬ (¬ x1.toInt = x2.toInt)) => ?_)
  · --
    refine s_i (pc1 := 16) (ls1 := [some (.ref 3), some (.int c)]) (st1 := []) rfl rfl fun x5 e6 => ?_
    have e6t : x5.toInt = 1 := by rw [e6]; rfl
    refine aw_ret (v := some (.int x5)) rfl rfl ?_
    first
      | exact ⟨rfl, x5, rfl, by unfold wrV; rw [if_pos (by omega)]; omega⟩
      | exact ⟨rfl, x5, rfl, by unfold wrV; rw [if_neg (by omega)]; omega⟩
  · --
    refine s_i (pc1 := 12) (ls1 := [some (.ref 3), some (.int c)]) (st1 := []) rfl rfl fun x7 e8 => ?_
    have e8t : x7.toInt = 2 := by rw [e8]; rfl
    refine aw_step (f1 := (16, [some (.ref 3), some (.int c)], [(.int x7)])) (w1 := w) rfl rfl ?_
    refine aw_ret (v := some (.int x7)) rfl rfl ?_
    first
      | exact ⟨rfl, x7, rfl, by unfold wrV; rw [if_pos (by omega)]; omega⟩
      | exact ⟨rfl, x7, rfl, by unfold wrV; rw [if_neg (by omega)]; omega⟩
theorem e_putOn {d : Nat} {w : am_W} {V st : Nat → Int} {k : Int} (R : RCs w 3 V) (C : JC w st) (B : jB V st k) (b : Int32) (hb : 0 ≤ b.toInt ∧ b.toInt ≤ 3) (I : ab_inv ab_TT ab_sets w) : aw none (d + 2) 57 (fun r w1 => ab_J ab_TT ab_sets ab_WR w w1 ∧ only [16, 17] w w1 ∧ (fI w1 16 0 = fI w 16 0 ∧ fI w1 16 1 = fI w 16 1) ∧ ∃ z : Int32, r = some (.int z) ∧ ∃ st1, JC w1 st1 ∧ jS V st 35 b.toInt z.toInt st1) (0, am_entry 57 [.ref 16, .ref 3, .int b], []) w := by
  have J : ab_J ab_TT ab_sets ab_WR w w := ⟨I, ab_fr.rf⟩
  obtain ⟨c0, c1, c2, c3⟩ := C
  obtain ⟨q0, q1, q2, q3⟩ := B
  have szc := szC_in I
  have hsz := R.sz
  show aw none (d + 2) 57 _ (0, [some (.ref 16), some (.ref 3), some (.int b)], []) w
  refine aw_step (f1 := (1, [some (.ref 16), some (.ref 3), some (.int b)], [(.int b)])) (w1 := w) rfl rfl ?_
  refine s_cs (z := 103) (as := [(.int b)]) (st1 := []) 4 rfl rfl rfl rfl rfl rfl (Nat.le_of_ble_eq_true rfl) (Nat.le_of_ble_eq_true rfl) (Nat.le_of_ble_eq_true rfl) (q_isBoots b) ?_
  rintro _ _ ⟨rfl, x1, rfl, x1t⟩
  refine ⟨rfl, ?_⟩
  show aw none _ 57 _ (4, [some (.ref 16), some (.ref 3), some (.int b)], [(.int x1)]) w
  refine s_if 29 7 rfl rfl rfl (fun (h2 : x1.toInt = 0) => ?_) (fun (h2 : ¬ (x1.toInt = 0)) => ?_)
  · --
    refine s_i (pc1 := 30) (ls1 := [some (.ref 16), some (.ref 3), some (.int b)]) (st1 := []) rfl rfl fun x3 e4 => ?_
    have e4t : x3.toInt = 5 := by rw [e4]; rfl
    refine aw_ret (v := some (.int x3)) rfl rfl ?_
    exact ⟨J, only.rf, ⟨rfl, rfl⟩, x3, rfl, st, ⟨c0, c1, c2, c3⟩, Or.inl ⟨rfl, by omega, by first | exact Or.inr (by omega) | exact Or.inl (by rw [hcb]; omega), rfl⟩⟩
  · --
    refine aw_step (f1 := (8, [some (.ref 16), some (.ref 3), some (.int b)], [(.int b)])) (w1 := w) rfl rfl ?_
    refine aw_step (f1 := (9, [some (.ref 16), some (.ref 3), some (.int b)], [(.ref 16), (.int b)])) (w1 := w) rfl rfl ?_
    refine s_gi J 12 rfl rfl rfl rfl rfl rfl fun x5 x5a x5b x5f => ?_
    have x5v : x5.toInt = fI w 16 3 := by rw [← fI_of x5f]
    refine s_ic 29 15 rfl rfl rfl (fun (h6 : b.toInt = x5.toInt) => ?_) (fun (h6 : ¬ (b.toInt = x5.toInt)) => ?_)
    · --
      refine s_i (pc1 := 30) (ls1 := [some (.ref 16), some (.ref 3), some (.int b)]) (st1 := []) rfl rfl fun x7 e8 => ?_
      have e8t : x7.toInt = 5 := by rw [e8]; rfl
      refine aw_ret (v := some (.int x7)) rfl rfl ?_
      exact ⟨J, only.rf, ⟨rfl, rfl⟩, x7, rfl, st, ⟨c0, c1, c2, c3⟩, Or.inl ⟨rfl, by omega, by first | exact Or.inr (by omega) | exact Or.inl (by rw [hcb]; omega), rfl⟩⟩
    · --
      refine aw_step (f1 := (16, [some (.ref 16), some (.ref 3), some (.int b)], [(.ref 3)])) (w1 := w) rfl rfl ?_
      refine s_gl J 19 rfl rfl rfl rfl rfl rfl fun y9 y9a y9b y9f => ?_
      refine aw_step (f1 := (20, [some (.ref 16), some (.ref 3), some (.int b)], [(.ref 16), (.long y9)])) (w1 := w) rfl rfl ?_
      refine s_gi J 23 rfl rfl rfl rfl rfl rfl fun x10 x10a x10b x10f => ?_
      have x10v : x10.toInt = fI w 16 2 := by rw [← fI_of x10f]
      --
      refine s_cs (z := 105) (as := [(.long y9), (.int x10)]) (st1 := []) 26 rfl rfl rfl rfl rfl rfl (Nat.le_of_ble_eq_true rfl) (Nat.le_of_ble_eq_true rfl) (Nat.le_of_ble_eq_true rfl) (q_hasC y9 x10 (by omega) (by omega)) ?_
      rintro _ _ ⟨rfl, x11, rfl, x11t⟩
      refine ⟨rfl, ?_⟩
      show aw none _ 57 _ (26, [some (.ref 16), some (.ref 3), some (.int b)], [(.int x11)]) w
      have x11l := bt_le (n64 y9) x10.toInt.toNat
      have hcb : chB V (st 0) = bt (n64 y9) x10.toInt.toNat := by unfold chB; rw [show Int64.ofInt (V 3) = y9 from by rw [← R.f6, fLi_of y9f]; exact Int64.ofInt_toInt _, show (st 0).toNat = x10.toInt.toNat by omega]
      refine s_if 31 29 rfl rfl rfl (fun (h12 : ¬ x11.toInt = 0) => ?_) (fun (h12 : ¬ (¬ x11.toInt = 0)) => ?_)
      · --
        refine aw_step (f1 := (32, [some (.ref 16), some (.ref 3), some (.int b)], [(.ref 16)])) (w1 := w) rfl rfl ?_
        refine aw_step (f1 := (33, [some (.ref 16), some (.ref 3), some (.int b)], [(.int b), (.ref 16)])) (w1 := w) rfl rfl ?_
        refine s_pi J 36 rfl rfl rfl rfl rfl rfl rfl (by omega) (by omega) fun w13 J14 w13e => ?_
        have w13f := fv_st J.1 (p := 16) (kf := 3) rfl (by decide) w13e
        refine s_i (pc1 := 37) (ls1 := [some (.ref 16), some (.ref 3), some (.int b)]) (st1 := []) rfl rfl fun x15 e16 => ?_
        have e16t : x15.toInt = 0 := by rw [e16]; rfl
        refine aw_ret (v := some (.int x15)) rfl rfl ?_
        exact ⟨J14, w13f.1.sub (by decide), ⟨by rw [fI_eq (w13f.2.2 0 (by decide))], by rw [fI_eq (w13f.2.2 1 (by decide))]⟩, x15, rfl, _, ⟨by rw [fI_eq (w13f.2.2 2 (by decide)), upv_n (by decide)]; exact c0, by rw [fI_of w13f.2.1, upv_s], by rw [fI_eq (w13f.2.2 4 (by decide)), upv_n (by decide)]; exact c2, fun k hk => by rw [w13f.1.rIe (by decide), upv_n (by omega)]; exact c3 k hk⟩, Or.inr (Or.inl ⟨rfl, by omega, by rw [hcb]; omega, by omega, rfl⟩)⟩
      · --
        refine s_i (pc1 := 30) (ls1 := [some (.ref 16), some (.ref 3), some (.int b)]) (st1 := []) rfl rfl fun x17 e18 => ?_
        have e18t : x17.toInt = 5 := by rw [e18]; rfl
        refine aw_ret (v := some (.int x17)) rfl rfl ?_
        exact ⟨J, only.rf, ⟨rfl, rfl⟩, x17, rfl, st, ⟨c0, c1, c2, c3⟩, Or.inl ⟨rfl, by omega, by first | exact Or.inr (by omega) | exact Or.inl (by rw [hcb]; omega), rfl⟩⟩
theorem e_stride {d : Nat} {w : am_W} {V st : Nat → Int} {k : Int} (R : RCs w 3 V) (C : JC w st) (B : jB V st k) (hk : 0 ≤ k ∧ k ≤ 1000) (cl rw_ : Int32) (hcl : 0 ≤ cl.toInt ∧ cl.toInt ≤ 5) (hrw : 0 ≤ rw_.toInt ∧ rw_.toInt ≤ 5) (I : ab_inv ab_TT ab_sets w) : aw none (d + 3) 58 (fun r w1 => ab_J ab_TT ab_sets ab_WR w w1 ∧ only [16, 17] w w1 ∧ (fI w1 16 0 = fI w 16 0 ∧ fI w1 16 1 = fI w 16 1) ∧ ∃ z : Int32, r = some (.int z) ∧ ∃ st1, JC w1 st1 ∧ jS V st (cl.toInt + 97) rw_.toInt z.toInt st1) (0, am_entry 58 [.ref 16, .ref 3, .int cl, .int rw_], []) w := by
  have J : ab_J ab_TT ab_sets ab_WR w w := ⟨I, ab_fr.rf⟩
  obtain ⟨c0, c1, c2, c3⟩ := C
  obtain ⟨q0, q1, q2, q3⟩ := B
  have szc := szC_in I
  have hsz := R.sz
  have f0 := R.f0
  have f1 := R.f1
  have b0 := fI_in (p := 3) (k := 0) I rfl rfl
  have b1 := fI_in (p := 3) (k := 1) I rfl rfl
  have hv : (1 ≤ V 0 ∧ V 0 ≤ 6) ∧ 1 ≤ V 1 ∧ V 1 ≤ 6 := by omega
  have q31 := q3 (st 1).toNat (by omega)
  have mm : 0 ≤ rw_.toInt * V 1 ∧ rw_.toInt * V 1 ≤ 30 := by
    have := mu_6 (r := rw_.toInt) (b := V 1) (a := 6) (by omega) (by omega) (by omega) (by omega) (by omega)
    omega
  show aw none (d + 3) 58 _ (0, [some (.ref 16), some (.ref 3), some (.int cl), some (.int rw_), none], []) w
  refine aw_step (f1 := (1, [some (.ref 16), some (.ref 3), some (.int cl), some (.int rw_), none], [(.int cl)])) (w1 := w) rfl rfl ?_
  refine s_i (pc1 := 2) (ls1 := [some (.ref 16), some (.ref 3), some (.int cl), some (.int rw_), none]) (st1 := [(.int cl)]) rfl rfl fun x1 e2 => ?_
  have e2t : x1.toInt = 0 := by rw [e2]; rfl
  refine aw_step (f1 := (3, [some (.ref 16), some (.ref 3), some (.int cl), some (.int rw_), none], [(.ref 3), (.int x1), (.int cl)])) (w1 := w) rfl rfl ?_
  refine s_gi J 6 rfl rfl rfl rfl rfl rfl fun x3 x3a x3b x3f => ?_
  have x3v : x3.toInt = fI w 3 1 := by rw [← fI_of x3f]
  refine s_i (pc1 := 7) (ls1 := [some (.ref 16), some (.ref 3), some (.int cl), some (.int rw_), none]) (st1 := [(.int x3), (.int x1), (.int cl)]) rfl rfl fun x4 e5 => ?_
  have e5t : x4.toInt = 1 := by rw [e5]; rfl
  refine s_i (pc1 := 8) (ls1 := [some (.ref 16), some (.ref 3), some (.int cl), some (.int rw_), none]) (st1 := [(.int x1), (.int cl)]) rfl rfl fun x6 e7 => ?_
  have e7 : x6 = x3 - x4 := e7
  have e7t : x6.toInt = x3.toInt - x4.toInt := by rw [e7]; exact n_sub (by omega) (by omega)
  refine s_cs (z := 102) (as := [(.int cl), (.int x1), (.int x6)]) (st1 := []) 11 rfl rfl rfl rfl rfl rfl (Nat.le_of_ble_eq_true rfl) (Nat.le_of_ble_eq_true rfl) (Nat.le_of_ble_eq_true rfl) (q_within cl x1 x6) ?_
  rintro _ _ ⟨rfl, x8, rfl, x8t⟩
  refine ⟨rfl, ?_⟩
  show aw none _ 58 _ (11, [some (.ref 16), some (.ref 3), some (.int cl), some (.int rw_), none], [(.int x8)]) w
  refine s_if 28 14 rfl rfl rfl (fun (h9 : x8.toInt = 0) => ?_) (fun (h9 : ¬ (x8.toInt = 0)) => ?_)
  · --
    refine s_i (pc1 := 29) (ls1 := [some (.ref 16), some (.ref 3), some (.int cl), some (.int rw_), none]) (st1 := []) rfl rfl fun x10 e11 => ?_
    have e11t : x10.toInt = 1 := by rw [e11]; rfl
    refine aw_ret (v := some (.int x10)) rfl rfl ?_
    first
      | exact ⟨J, only.rf, ⟨rfl, rfl⟩, x10, rfl, st, ⟨c0, c1, c2, c3⟩, Or.inr (Or.inr (Or.inl ⟨by omega, by omega, by omega, rfl⟩))⟩
      | exact ⟨J, only.rf, ⟨rfl, rfl⟩, x10, rfl, st, ⟨c0, c1, c2, c3⟩, Or.inr (Or.inr (Or.inr (Or.inl ⟨by omega, by omega, ⟨by omega, by omega⟩, by rw [← hto]; omega, rfl⟩)))⟩
      | exact ⟨J, only.rf, ⟨rfl, rfl⟩, x10, rfl, st, ⟨c0, c1, c2, c3⟩, Or.inr (Or.inr (Or.inr (Or.inr (Or.inl ⟨by omega, by omega, ⟨by omega, by omega⟩, by rw [← hto]; omega, by omega, rfl⟩))))⟩
      | exact ⟨J, only.rf, ⟨rfl, rfl⟩, x10, rfl, st, ⟨c0, c1, c2, c3⟩, Or.inr (Or.inr (Or.inr (Or.inr (Or.inr (Or.inl ⟨by omega, by omega, ⟨by omega, by omega⟩, by rw [← hto]; omega, by omega, by omega, rfl⟩)))))⟩
  · --
    refine aw_step (f1 := (15, [some (.ref 16), some (.ref 3), some (.int cl), some (.int rw_), none], [(.int rw_)])) (w1 := w) rfl rfl ?_
    refine s_i (pc1 := 16) (ls1 := [some (.ref 16), some (.ref 3), some (.int cl), some (.int rw_), none]) (st1 := [(.int rw_)]) rfl rfl fun x12 e13 => ?_
    have e13t : x12.toInt = 0 := by rw [e13]; rfl
    refine aw_step (f1 := (17, [some (.ref 16), some (.ref 3), some (.int cl), some (.int rw_), none], [(.ref 3), (.int x12), (.int rw_)])) (w1 := w) rfl rfl ?_
    refine s_gi J 20 rfl rfl rfl rfl rfl rfl fun x14 x14a x14b x14f => ?_
    have x14v : x14.toInt = fI w 3 0 := by rw [← fI_of x14f]
    refine s_i (pc1 := 21) (ls1 := [some (.ref 16), some (.ref 3), some (.int cl), some (.int rw_), none]) (st1 := [(.int x14), (.int x12), (.int rw_)]) rfl rfl fun x15 e16 => ?_
    have e16t : x15.toInt = 1 := by rw [e16]; rfl
    refine s_i (pc1 := 22) (ls1 := [some (.ref 16), some (.ref 3), some (.int cl), some (.int rw_), none]) (st1 := [(.int x12), (.int rw_)]) rfl rfl fun x17 e18 => ?_
    have e18 : x17 = x14 - x15 := e18
    have e18t : x17.toInt = x14.toInt - x15.toInt := by rw [e18]; exact n_sub (by omega) (by omega)
    refine s_cs (z := 102) (as := [(.int rw_), (.int x12), (.int x17)]) (st1 := []) 25 rfl rfl rfl rfl rfl rfl (Nat.le_of_ble_eq_true rfl) (Nat.le_of_ble_eq_true rfl) (Nat.le_of_ble_eq_true rfl) (q_within rw_ x12 x17) ?_
    rintro _ _ ⟨rfl, x19, rfl, x19t⟩
    refine ⟨rfl, ?_⟩
    show aw none _ 58 _ (25, [some (.ref 16), some (.ref 3), some (.int cl), some (.int rw_), none], [(.int x19)]) w
    refine s_if 30 28 rfl rfl rfl (fun (h20 : ¬ x19.toInt = 0) => ?_) (fun (h20 : ¬ (¬ x19.toInt = 0)) => ?_)
    · --
      refine aw_step (f1 := (31, [some (.ref 16), some (.ref 3), some (.int cl), some (.int rw_), none], [(.int rw_)])) (w1 := w) rfl rfl ?_
      refine aw_step (f1 := (32, [some (.ref 16), some (.ref 3), some (.int cl), some (.int rw_), none], [(.ref 3), (.int rw_)])) (w1 := w) rfl rfl ?_
      refine s_gi J 35 rfl rfl rfl rfl rfl rfl fun x21 x21a x21b x21f => ?_
      have x21v : x21.toInt = fI w 3 1 := by rw [← fI_of x21f]
      --
      refine s_i (pc1 := 36) (ls1 := [some (.ref 16), some (.ref 3), some (.int cl), some (.int rw_), none]) (st1 := []) rfl rfl fun x22 e23 => ?_
      have e23 : x22 = rw_ * x21 := e23
      have mp : x22.toInt = rw_.toInt * V 1 := by rw [e23, n_mul (by rw [show x21.toInt = V 1 by omega]; omega) (by rw [show x21.toInt = V 1 by omega]; omega), show x21.toInt = V 1 by omega]
      refine aw_step (f1 := (37, [some (.ref 16), some (.ref 3), some (.int cl), some (.int rw_), none], [(.int cl), (.int x22)])) (w1 := w) rfl rfl ?_
      refine s_i (pc1 := 38) (ls1 := [some (.ref 16), some (.ref 3), some (.int cl), some (.int rw_), none]) (st1 := []) rfl rfl fun x24 e25 => ?_
      have e25 : x24 = x22 + cl := e25
      have e25t : x24.toInt = x22.toInt + cl.toInt := by rw [e25]; exact n_add (by omega) (by omega)
      have hto : x24.toInt = toV V (cl.toInt + 97) rw_.toInt := by unfold toV; omega
      have hti := toV_in (V := V) (f := cl.toInt + 97) (d := rw_.toInt) hv (by omega) (by omega) ⟨by omega, by omega⟩
      refine aw_step (f1 := (40, [some (.ref 16), some (.ref 3), some (.int cl), some (.int rw_), some (.int x24)], [])) (w1 := w) rfl rfl ?_
      refine aw_step (f1 := (41, [some (.ref 16), some (.ref 3), some (.int cl), some (.int rw_), some (.int x24)], [(.ref 3)])) (w1 := w) rfl rfl ?_
      refine aw_step (f1 := (43, [some (.ref 16), some (.ref 3), some (.int cl), some (.int rw_), some (.int x24)], [(.int x24), (.ref 3)])) (w1 := w) rfl rfl ?_
      refine s_cv (z := 40) (p := 3) (as := [(.int x24)]) (st1 := []) J 46 rfl rfl rfl rfl rfl rfl rfl rfl (Nat.le_of_ble_eq_true rfl) (Nat.le_of_ble_eq_true rfl) (q_isDry R x24 J.1) ?_
      rintro _ _ ⟨rfl, x26, rfl, x26t⟩
      refine ⟨rfl, ?_⟩
      show aw none _ 58 _ (46, [some (.ref 16), some (.ref 3), some (.int cl), some (.int rw_), some (.int x24)], [(.int x26)]) w
      refine s_if 51 49 rfl rfl rfl (fun (h27 : ¬ x26.toInt = 0) => ?_) (fun (h27 : ¬ (¬ x26.toInt = 0)) => ?_)
      · --
        refine aw_step (f1 := (52, [some (.ref 16), some (.ref 3), some (.int cl), some (.int rw_), some (.int x24)], [(.ref 3)])) (w1 := w) rfl rfl ?_
        refine aw_step (f1 := (53, [some (.ref 16), some (.ref 3), some (.int cl), some (.int rw_), some (.int x24)], [(.ref 16), (.ref 3)])) (w1 := w) rfl rfl ?_
        refine s_gi J 56 rfl rfl rfl rfl rfl rfl fun x28 x28a x28b x28f => ?_
        have x28v : x28.toInt = fI w 16 2 := by rw [← fI_of x28f]
        refine aw_step (f1 := (58, [some (.ref 16), some (.ref 3), some (.int cl), some (.int rw_), some (.int x24)], [(.int x24), (.int x28), (.ref 3)])) (w1 := w) rfl rfl ?_
        have hsq : sqM (V 1) x28.toInt x24.toInt = sqM (V 1) (st 0) (toV V (cl.toInt + 97) rw_.toInt) := by rw [show x28.toInt = st 0 by omega, hto]
        refine s_cv (z := 43) (p := 3) (as := [(.int x28), (.int x24)]) (st1 := []) J 61 rfl rfl rfl rfl rfl rfl rfl rfl (Nat.le_of_ble_eq_true rfl) (Nat.le_of_ble_eq_true rfl) (e_sqB R x28 x24 ⟨by omega, by omega⟩ ⟨by omega, by omega⟩ J.1) ?_
        rintro _ _ ⟨rfl, x29, rfl, x29t⟩
        refine ⟨rfl, ?_⟩
        show aw none _ 58 _ (61, [some (.ref 16), some (.ref 3), some (.int cl), some (.int rw_), some (.int x24)], [(.int x29)]) w
        refine aw_step (f1 := (62, [some (.ref 16), some (.ref 3), some (.int cl), some (.int rw_), some (.int x24)], [(.ref 3), (.int x29)])) (w1 := w) rfl rfl ?_
        refine s_gr 7 J 65 rfl rfl rfl rfl rfl rfl ?_
        refine aw_step (f1 := (66, [some (.ref 16), some (.ref 3), some (.int cl), some (.int rw_), some (.int x24)], [(.ref 16), (.ref 7), (.int x29)])) (w1 := w) rfl rfl ?_
        refine s_gi J 69 rfl rfl rfl rfl rfl rfl fun x30 x30a x30b x30f => ?_
        have x30v : x30.toInt = fI w 16 3 := by rw [← fI_of x30f]
        --
        refine s_ia J 70 rfl rfl rfl rfl (by omega) (by omega) fun x31 x31a x31b x31f => ?_
        have x31v : x31.toInt = rI w 7 x30.toInt.toNat := by rw [← rI_of x31f]
        have hle : x31.toInt = V (8 + 4 * (st 1).toNat + 0) := by rw [x31v, ← show x30.toInt.toNat = (st 1).toNat by omega]; exact R.rv (r := 4) (i := x30.toInt.toNat) (by decide) (by decide) (by omega) (by show x30.toInt.toNat < 4; omega)
        refine s_ic 75 73 rfl rfl rfl (fun (h32 : x29.toInt = x31.toInt) => ?_) (fun (h32 : ¬ (x29.toInt = x31.toInt)) => ?_)
        · --
          refine aw_step (f1 := (76, [some (.ref 16), some (.ref 3), some (.int cl), some (.int rw_), some (.int x24)], [(.ref 16)])) (w1 := w) rfl rfl ?_
          refine s_gr 17 J 79 rfl rfl rfl rfl rfl rfl ?_
          refine aw_step (f1 := (80, [some (.ref 16), some (.ref 3), some (.int cl), some (.int rw_), some (.int x24)], [(.ref 16), (.ref 17)])) (w1 := w) rfl rfl ?_
          refine s_gi J 83 rfl rfl rfl rfl rfl rfl fun x33 x33a x33b x33f => ?_
          have x33v : x33.toInt = fI w 16 3 := by rw [← fI_of x33f]
          --
          refine s_ia J 84 rfl rfl rfl rfl (by omega) (by omega) fun x34 x34a x34b x34f => ?_
          have x34v : x34.toInt = rI w 17 x33.toInt.toNat := by rw [← rI_of x34f]
          have hw1 : x34.toInt = st (3 + (st 1).toNat) := by rw [x34v, show x33.toInt.toNat = (st 1).toNat by omega]; exact c3 _ (by omega)
          refine aw_step (f1 := (85, [some (.ref 16), some (.ref 3), some (.int cl), some (.int rw_), some (.int x24)], [(.ref 3), (.int x34)])) (w1 := w) rfl rfl ?_
          refine aw_step (f1 := (87, [some (.ref 16), some (.ref 3), some (.int cl), some (.int rw_), some (.int x24)], [(.int x24), (.ref 3), (.int x34)])) (w1 := w) rfl rfl ?_
          refine s_cv (z := 42) (p := 3) (as := [(.int x24)]) (st1 := [(.int x34)]) J 90 rfl rfl rfl rfl rfl rfl rfl rfl (Nat.le_of_ble_eq_true rfl) (Nat.le_of_ble_eq_true rfl) (e_wearAt R x24 ⟨by omega, by omega⟩ J.1) ?_
          rintro _ _ ⟨rfl, x35, rfl, x35t⟩
          refine ⟨rfl, ?_⟩
          show aw none _ 58 _ (90, [some (.ref 16), some (.ref 3), some (.int cl), some (.int rw_), some (.int x24)], [(.int x35), (.int x34)]) w
          have x35b := wrV_b V x24.toInt
          have hr1 : x35.toInt = wrV V (toV V (cl.toInt + 97) rw_.toInt) := by rw [x35t, hto]
          refine s_i (pc1 := 91) (ls1 := [some (.ref 16), some (.ref 3), some (.int cl), some (.int rw_), some (.int x24)]) (st1 := []) rfl rfl fun x36 e37 => ?_
          have e37 : x36 = x34 + x35 := e37
          have e37t : x36.toInt = x34.toInt + x35.toInt := by rw [e37]; exact n_add (by omega) (by omega)
          refine aw_step (f1 := (92, [some (.ref 16), some (.ref 3), some (.int cl), some (.int rw_), some (.int x24)], [(.ref 3), (.int x36)])) (w1 := w) rfl rfl ?_
          refine s_gr 8 J 95 rfl rfl rfl rfl rfl rfl ?_
          refine aw_step (f1 := (96, [some (.ref 16), some (.ref 3), some (.int cl), some (.int rw_), some (.int x24)], [(.ref 16), (.ref 8), (.int x36)])) (w1 := w) rfl rfl ?_
          refine s_gi J 99 rfl rfl rfl rfl rfl rfl fun x38 x38a x38b x38f => ?_
          have x38v : x38.toInt = fI w 16 3 := by rw [← fI_of x38f]
          --
          refine s_ia J 100 rfl rfl rfl rfl (by omega) (by omega) fun x39 x39a x39b x39f => ?_
          have x39v : x39.toInt = rI w 8 x38.toInt.toNat := by rw [← rI_of x39f]
          have hhe : x39.toInt = V (8 + 4 * (st 1).toNat + 1) := by rw [x39v, ← show x38.toInt.toNat = (st 1).toNat by omega]; exact R.rv (r := 5) (i := x38.toInt.toNat) (by decide) (by decide) (by omega) (by show x38.toInt.toNat < 4; omega)
          refine s_ic 105 103 rfl rfl rfl (fun (h40 : x36.toInt ≤ x39.toInt) => ?_) (fun (h40 : ¬ (x36.toInt ≤ x39.toInt)) => ?_)
          · --
            refine aw_step (f1 := (106, [some (.ref 16), some (.ref 3), some (.int cl), some (.int rw_), some (.int x24)], [(.ref 16)])) (w1 := w) rfl rfl ?_
            refine s_gr 17 J 109 rfl rfl rfl rfl rfl rfl ?_
            refine aw_step (f1 := (110, [some (.ref 16), some (.ref 3), some (.int cl), some (.int rw_), some (.int x24)], [(.ref 16), (.ref 17)])) (w1 := w) rfl rfl ?_
            refine s_gi J 113 rfl rfl rfl rfl rfl rfl fun x41 x41a x41b x41f => ?_
            have x41v : x41.toInt = fI w 16 3 := by rw [← fI_of x41f]
            refine aw_step (f1 := (114, [some (.ref 16), some (.ref 3), some (.int cl), some (.int rw_), some (.int x24)], [(.int x41), (.ref 17), (.int x41), (.ref 17)])) (w1 := w) rfl rfl ?_
            --
            refine s_ia J 115 rfl rfl rfl rfl (by omega) (by omega) fun x42 x42a x42b x42f => ?_
            have x42v : x42.toInt = rI w 17 x41.toInt.toNat := by rw [← rI_of x42f]
            have hw2 : x42.toInt = st (3 + (st 1).toNat) := by rw [x42v, show x41.toInt.toNat = (st 1).toNat by omega]; exact c3 _ (by omega)
            refine aw_step (f1 := (116, [some (.ref 16), some (.ref 3), some (.int cl), some (.int rw_), some (.int x24)], [(.ref 3), (.int x42), (.int x41), (.ref 17)])) (w1 := w) rfl rfl ?_
            refine aw_step (f1 := (118, [some (.ref 16), some (.ref 3), some (.int cl), some (.int rw_), some (.int x24)], [(.int x24), (.ref 3), (.int x42), (.int x41), (.ref 17)])) (w1 := w) rfl rfl ?_
            refine s_cv (z := 42) (p := 3) (as := [(.int x24)]) (st1 := [(.int x42), (.int x41), (.ref 17)]) J 121 rfl rfl rfl rfl rfl rfl rfl rfl (Nat.le_of_ble_eq_true rfl) (Nat.le_of_ble_eq_true rfl) (e_wearAt R x24 ⟨by omega, by omega⟩ J.1) ?_
            rintro _ _ ⟨rfl, x43, rfl, x43t⟩
            refine ⟨rfl, ?_⟩
            show aw none _ 58 _ (121, [some (.ref 16), some (.ref 3), some (.int cl), some (.int rw_), some (.int x24)], [(.int x43), (.int x42), (.int x41), (.ref 17)]) w
            have x43b := wrV_b V x24.toInt
            have hr2 : x43.toInt = wrV V (toV V (cl.toInt + 97) rw_.toInt) := by rw [x43t, hto]
            refine s_i (pc1 := 122) (ls1 := [some (.ref 16), some (.ref 3), some (.int cl), some (.int rw_), some (.int x24)]) (st1 := [(.int x41), (.ref 17)]) rfl rfl fun x44 e45 => ?_
            have e45 : x44 = x42 + x43 := e45
            have e45t : x44.toInt = x42.toInt + x43.toInt := by rw [e45]; exact n_add (by omega) (by omega)
            refine s_is J 123 rfl rfl rfl rfl (by omega) (by omega) (by omega) (by omega) fun w46 J47 w46e => ?_
            have w46f := rI_st J.1 (p := 17) (j := x41.toInt.toNat) rfl (by omega) w46e
            refine aw_step (f1 := (124, [some (.ref 16), some (.ref 3), some (.int cl), some (.int rw_), some (.int x24)], [(.ref 16)])) (w1 := w46) rfl rfl ?_
            refine aw_step (f1 := (125, [some (.ref 16), some (.ref 3), some (.int cl), some (.int rw_), some (.int x24)], [(.ref 16), (.ref 16)])) (w1 := w46) rfl rfl ?_
            refine s_gi J47 128 rfl rfl rfl rfl rfl rfl fun x48 x48a x48b x48f => ?_
            have x48v : x48.toInt = fI w 16 4 := by rw [← fI_of x48f, w46f.1.fIe (by decide)]
            refine s_i (pc1 := 129) (ls1 := [some (.ref 16), some (.ref 3), some (.int cl), some (.int rw_), some (.int x24)]) (st1 := [(.int x48), (.ref 16)]) rfl rfl fun x49 e50 => ?_
            have e50t : x49.toInt = 1 := by rw [e50]; rfl
            refine s_i (pc1 := 130) (ls1 := [some (.ref 16), some (.ref 3), some (.int cl), some (.int rw_), some (.int x24)]) (st1 := [(.ref 16)]) rfl rfl fun x51 e52 => ?_
            have e52 : x51 = x48 + x49 := e52
            have e52t : x51.toInt = x48.toInt + x49.toInt := by rw [e52]; exact n_add (by omega) (by omega)
            refine s_pi J47 133 rfl rfl rfl rfl rfl rfl rfl (by omega) (by omega) fun w53 J54 w53e => ?_
            have w53f := fv_st J47.1 (p := 16) (kf := 4) rfl (by decide) w53e
            refine aw_step (f1 := (134, [some (.ref 16), some (.ref 3), some (.int cl), some (.int rw_), some (.int x24)], [(.ref 16)])) (w1 := w53) rfl rfl ?_
            refine aw_step (f1 := (136, [some (.ref 16), some (.ref 3), some (.int cl), some (.int rw_), some (.int x24)], [(.int x24), (.ref 16)])) (w1 := w53) rfl rfl ?_
            refine s_pi J54 139 rfl rfl rfl rfl rfl rfl rfl (by omega) (by omega) fun w55 J56 w55e => ?_
            have w55f := fv_st J54.1 (p := 16) (kf := 2) rfl (by decide) w55e
            refine s_i (pc1 := 140) (ls1 := [some (.ref 16), some (.ref 3), some (.int cl), some (.int rw_), some (.int x24)]) (st1 := []) rfl rfl fun x57 e58 => ?_
            have e58t : x57.toInt = 0 := by rw [e58]; rfl
            refine aw_ret (v := some (.int x57)) rfl rfl ?_
            refine ⟨J56, ((w46f.1.sub (by decide)).trans (w53f.1.sub (by decide))).trans (w55f.1.sub (by decide)), ⟨by rw [fI_eq (w55f.2.2 0 (by decide)), fI_eq (w53f.2.2 0 (by decide)), w46f.1.fIe (by decide)], by rw [fI_eq (w55f.2.2 1 (by decide)), fI_eq (w53f.2.2 1 (by decide)), w46f.1.fIe (by decide)]⟩, x57, rfl, _, ⟨by rw [fI_of w55f.2.1, upv_s]; exact hto, by rw [fI_eq (w55f.2.2 3 (by decide)), fI_eq (w53f.2.2 3 (by decide)), w46f.1.fIe (by decide), upv_n (by decide), upv_n (by decide), upv_n (by omega)]; exact c1, by rw [fI_eq (w55f.2.2 4 (by decide)), fI_of w53f.2.1, upv_n (by decide), upv_s]; omega, fun k hk => ?_⟩, Or.inr (Or.inr (Or.inr (Or.inr (Or.inr (Or.inr (⟨by omega, by omega, ⟨by omega, by omega⟩, by rw [← hto]; omega, by omega, by omega, rfl⟩))))))⟩
            rw [w55f.1.rIe (by decide), w53f.1.rIe (by decide), upv_n (by omega), upv_n (by omega)]
            by_cases e : k = (st 1).toNat
            · have q5 : x41.toInt.toNat = (st 1).toNat := by omega
              have q6 := w46f.2.1
              rw [q5] at q6
              rw [e, upv_s, q6]; omega
            · rw [upv_n (by omega), w46f.2.2 k (by omega)]; exact c3 k hk
          · --
            refine s_i (pc1 := 104) (ls1 := [some (.ref 16), some (.ref 3), some (.int cl), some (.int rw_), some (.int x24)]) (st1 := []) rfl rfl fun x59 e60 => ?_
            have e60t : x59.toInt = 4 := by rw [e60]; rfl
            refine aw_ret (v := some (.int x59)) rfl rfl ?_
            first
              | exact ⟨J, only.rf, ⟨rfl, rfl⟩, x59, rfl, st, ⟨c0, c1, c2, c3⟩, Or.inr (Or.inr (Or.inl ⟨by omega, by omega, by omega, rfl⟩))⟩
              | exact ⟨J, only.rf, ⟨rfl, rfl⟩, x59, rfl, st, ⟨c0, c1, c2, c3⟩, Or.inr (Or.inr (Or.inr (Or.inl ⟨by omega, by omega, ⟨by omega, by omega⟩, by rw [← hto]; omega, rfl⟩)))⟩
              | exact ⟨J, only.rf, ⟨rfl, rfl⟩, x59, rfl, st, ⟨c0, c1, c2, c3⟩, Or.inr (Or.inr (Or.inr (Or.inr (Or.inl ⟨by omega, by omega, ⟨by omega, by omega⟩, by rw [← hto]; omega, by omega, rfl⟩))))⟩
              | exact ⟨J, only.rf, ⟨rfl, rfl⟩, x59, rfl, st, ⟨c0, c1, c2, c3⟩, Or.inr (Or.inr (Or.inr (Or.inr (Or.inr (Or.inl ⟨by omega, by omega, ⟨by omega, by omega⟩, by rw [← hto]; omega, by omega, by omega, rfl⟩)))))⟩
        · --
          refine s_i (pc1 := 74) (ls1 := [some (.ref 16), some (.ref 3), some (.int cl), some (.int rw_), some (.int x24)]) (st1 := []) rfl rfl fun x61 e62 => ?_
          have e62t : x61.toInt = 3 := by rw [e62]; rfl
          refine aw_ret (v := some (.int x61)) rfl rfl ?_
          first
            | exact ⟨J, only.rf, ⟨rfl, rfl⟩, x61, rfl, st, ⟨c0, c1, c2, c3⟩, Or.inr (Or.inr (Or.inl ⟨by omega, by omega, by omega, rfl⟩))⟩
            | exact ⟨J, only.rf, ⟨rfl, rfl⟩, x61, rfl, st, ⟨c0, c1, c2, c3⟩, Or.inr (Or.inr (Or.inr (Or.inl ⟨by omega, by omega, ⟨by omega, by omega⟩, by rw [← hto]; omega, rfl⟩)))⟩
            | exact ⟨J, only.rf, ⟨rfl, rfl⟩, x61, rfl, st, ⟨c0, c1, c2, c3⟩, Or.inr (Or.inr (Or.inr (Or.inr (Or.inl ⟨by omega, by omega, ⟨by omega, by omega⟩, by rw [← hto]; omega, by omega, rfl⟩))))⟩
            | exact ⟨J, only.rf, ⟨rfl, rfl⟩, x61, rfl, st, ⟨c0, c1, c2, c3⟩, Or.inr (Or.inr (Or.inr (Or.inr (Or.inr (Or.inl ⟨by omega, by omega, ⟨by omega, by omega⟩, by rw [← hto]; omega, by omega, by omega, rfl⟩)))))⟩
      · --
        refine s_i (pc1 := 50) (ls1 := [some (.ref 16), some (.ref 3), some (.int cl), some (.int rw_), some (.int x24)]) (st1 := []) rfl rfl fun x63 e64 => ?_
        have e64t : x63.toInt = 2 := by rw [e64]; rfl
        refine aw_ret (v := some (.int x63)) rfl rfl ?_
        first
          | exact ⟨J, only.rf, ⟨rfl, rfl⟩, x63, rfl, st, ⟨c0, c1, c2, c3⟩, Or.inr (Or.inr (Or.inl ⟨by omega, by omega, by omega, rfl⟩))⟩
          | exact ⟨J, only.rf, ⟨rfl, rfl⟩, x63, rfl, st, ⟨c0, c1, c2, c3⟩, Or.inr (Or.inr (Or.inr (Or.inl ⟨by omega, by omega, ⟨by omega, by omega⟩, by rw [← hto]; omega, rfl⟩)))⟩
          | exact ⟨J, only.rf, ⟨rfl, rfl⟩, x63, rfl, st, ⟨c0, c1, c2, c3⟩, Or.inr (Or.inr (Or.inr (Or.inr (Or.inl ⟨by omega, by omega, ⟨by omega, by omega⟩, by rw [← hto]; omega, by omega, rfl⟩))))⟩
          | exact ⟨J, only.rf, ⟨rfl, rfl⟩, x63, rfl, st, ⟨c0, c1, c2, c3⟩, Or.inr (Or.inr (Or.inr (Or.inr (Or.inr (Or.inl ⟨by omega, by omega, ⟨by omega, by omega⟩, by rw [← hto]; omega, by omega, by omega, rfl⟩)))))⟩
    · --
      refine s_i (pc1 := 29) (ls1 := [some (.ref 16), some (.ref 3), some (.int cl), some (.int rw_), none]) (st1 := []) rfl rfl fun x65 e66 => ?_
      have e66t : x65.toInt = 1 := by rw [e66]; rfl
      refine aw_ret (v := some (.int x65)) rfl rfl ?_
      first
        | exact ⟨J, only.rf, ⟨rfl, rfl⟩, x65, rfl, st, ⟨c0, c1, c2, c3⟩, Or.inr (Or.inr (Or.inl ⟨by omega, by omega, by omega, rfl⟩))⟩
        | exact ⟨J, only.rf, ⟨rfl, rfl⟩, x65, rfl, st, ⟨c0, c1, c2, c3⟩, Or.inr (Or.inr (Or.inr (Or.inl ⟨by omega, by omega, ⟨by omega, by omega⟩, by rw [← hto]; omega, rfl⟩)))⟩
        | exact ⟨J, only.rf, ⟨rfl, rfl⟩, x65, rfl, st, ⟨c0, c1, c2, c3⟩, Or.inr (Or.inr (Or.inr (Or.inr (Or.inl ⟨by omega, by omega, ⟨by omega, by omega⟩, by rw [← hto]; omega, by omega, rfl⟩))))⟩
        | exact ⟨J, only.rf, ⟨rfl, rfl⟩, x65, rfl, st, ⟨c0, c1, c2, c3⟩, Or.inr (Or.inr (Or.inr (Or.inr (Or.inr (Or.inl ⟨by omega, by omega, ⟨by omega, by omega⟩, by rw [← hto]; omega, by omega, by omega, rfl⟩)))))⟩
