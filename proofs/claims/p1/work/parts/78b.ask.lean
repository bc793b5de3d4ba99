/-! ===== ask ===== -/
/-- how many of the set's lowest c cells are off by v from k -/
noncomputable def cA (V : Nat → Int) (x : Nat) (k v : Int) : Nat → Nat
  | 0 => 0
  | c + 1 => cA V x k v c + (if bt x c = 1 ∧ sqM (V 1) k c = v then 1 else 0)
theorem cA_le {V : Nat → Int} {x : Nat} {k v : Int} : ∀ c, cA V x k v c ≤ c
  | 0 => Nat.le_refl _
  | c + 1 => by have := cA_le (V := V) (x := x) (k := k) (v := v) c; unfold cA; split <;> omega
theorem cA_no {V : Nat → Int} {x : Nat} {k v : Int} {c : Nat} (h : ¬ (bt x c = 1 ∧ sqM (V 1) k c = v)) : cA V x k v (c + 1) = cA V x k v c := by rw [cA, if_neg h]; rfl
theorem cA_ye {V : Nat → Int} {x : Nat} {k v : Int} {c : Nat} (h : bt x c = 1 ∧ sqM (V 1) k c = v) : cA V x k v (c + 1) = cA V x k v c + 1 := by rw [cA, if_pos h]
theorem cA_top {V : Nat → Int} {x : Nat} {k v : Int} {N : Nat} (h : ∀ j, N ≤ j → bt x j = 0) : ∀ i, cA V x k v (N + i) = cA V x k v N
  | 0 => rfl
  | i + 1 => by rw [← Nat.add_assoc, cA_no (by rw [h _ (by omega)]; omega), cA_top h i]
theorem cA_cnt {V : Nat → Int} {x y : Nat} {k v : Int} (h : ∀ j, bt y j = 1 ↔ bt x j = 1 ∧ sqM (V 1) k j = v) : ∀ m, cnt y m = cA V x k v m
  | 0 => rfl
  | m + 1 => by
    rw [bt_s, cA, cA_cnt h m]
    have hm := h m
    have l := bt_le y m
    by_cases q : bt x m = 1 ∧ sqM (V 1) k m = v
    · rw [if_pos q, hm.mpr q]
    · have : ¬ bt y m = 1 := fun z => q (hm.mp z)
      rw [if_neg q]
      omega
/-- m is the most of f below u -/
noncomputable def MX (f : Int → Nat) (u m : Int) : Prop := (∀ v, 0 ≤ v → v < u → (f v : Int) ≤ m) ∧ 0 ≤ m ∧ (m = 0 ∨ ∃ v, 0 ≤ v ∧ v < u ∧ (f v : Int) = m)
theorem MX.uniq {f : Int → Nat} {u a b : Int} (h : MX f u a) (g : MX f u b) : b = a := by
  obtain ⟨h1, h2, h3⟩ := h
  obtain ⟨g1, g2, g3⟩ := g
  have k1 : a ≤ b := by
    rcases h3 with q | ⟨v, v1, v2, v3⟩
    · omega
    · have := g1 v v1 v2; omega
  have k2 : b ≤ a := by
    rcases g3 with q | ⟨v, v1, v2, v3⟩
    · omega
    · have := h1 v v1 v2; omega
  omega
theorem MX.z {f : Int → Nat} : MX f 0 0 := ⟨fun v a b => by omega, Int.le_refl _, Or.inl rfl⟩
theorem MX.st {f : Int → Nat} {u m m' : Int} (h : MX f u m) (h0 : 0 ≤ u) (e : (m < (f u : Int) ∧ m' = f u) ∨ ((f u : Int) ≤ m ∧ m' = m)) : MX f (u + 1) m' := by
  obtain ⟨h1, h2, h3⟩ := h
  rcases e with ⟨e1, e2⟩ | ⟨e1, e2⟩
  · refine ⟨fun v a b => ?_, by omega, Or.inr ⟨u, h0, by omega, e2.symm⟩⟩
    by_cases q : v = u
    · rw [q]; omega
    · have := h1 v a (by omega); omega
  · refine ⟨fun v a b => ?_, by omega, ?_⟩
    · by_cases q : v = u
      · rw [q]; omega
      · have := h1 v a (by omega); omega
    · rcases h3 with q | ⟨v, v1, v2, v3⟩
      · exact Or.inl (by omega)
      · exact Or.inr ⟨v, v1, by omega, by omega⟩
/-- one more of v0 -/
theorem MX.up {f g : Int → Nat} {u m m' v0 : Int} (h : MX f u m) (hv : 0 ≤ v0 ∧ v0 < u) (e1 : g v0 = f v0 + 1) (e2 : ∀ v, v ≠ v0 → g v = f v) (em : (m < (g v0 : Int) ∧ m' = g v0) ∨ ((g v0 : Int) ≤ m ∧ m' = m)) : MX g u m' := by
  obtain ⟨h1, h2, h3⟩ := h
  have b0 := h1 v0 hv.1 hv.2
  refine ⟨fun v a b => ?_, by omega, ?_⟩
  · by_cases q : v = v0
    · rw [q]; omega
    · rw [e2 v q]; have := h1 v a b; clear h3; omega
  · rcases em with ⟨m1, m2⟩ | ⟨m1, m2⟩
    · exact Or.inr ⟨v0, hv.1, hv.2, m2.symm⟩
    · rcases h3 with q | ⟨v, v1, v2, v3⟩
      · omega
      · by_cases q : v = v0
        · rw [q] at v3; omega
        · exact Or.inr ⟨v, v1, v2, by rw [e2 v q]; omega⟩
noncomputable def mxA (V : Nat → Int) (x : Nat) (k m : Int) : Prop := MX (fun v => cA V x k v 64) 51 m
/-- a is the best mark below c -/
noncomputable def BE (V : Nat → Int) (x : Nat) (c a m : Int) : Prop := (0 ≤ a ∧ a < c) ∧ mxA V x a m ∧ ∀ j : Int, 0 ≤ j → j < c → ∀ m', mxA V x j m' → m ≤ m' ∧ (j < a → m < m')
theorem BE.uniq {V : Nat → Int} {x : Nat} {c a b m n : Int} (h : BE V x c a m) (g : BE V x c b n) : b = a ∧ n = m := by
  obtain ⟨h1, h2, h3⟩ := h
  obtain ⟨g1, g2, g3⟩ := g
  have p := h3 b g1.1 g1.2 n g2
  have q := g3 a h1.1 h1.2 m h2
  have e : b = a := by omega
  subst e
  exact ⟨rfl, MX.uniq h2 g2⟩
theorem BE.st {V : Nat → Int} {x : Nat} {c a m l a' m' : Int} (h : (c = 0 ∧ 36 < m) ∨ BE V x c a m) (h0 : 0 ≤ c) (g : mxA V x c l) (hl : l ≤ 36) (e : (l < m ∧ a' = c ∧ m' = l) ∨ (m ≤ l ∧ a' = a ∧ m' = m)) : BE V x (c + 1) a' m' := by
  rcases h with h | ⟨h1, h2, h3⟩
  · have e' : a' = c ∧ m' = l := by omega
    rw [e'.1, e'.2]
    refine ⟨by omega, g, fun j j0 j1 n hn => ?_⟩
    rw [show j = c by omega] at hn
    have := MX.uniq g hn
    omega
  · rcases e with ⟨e1, e2, e3⟩ | ⟨e1, e2, e3⟩
    · rw [e2, e3]
      refine ⟨by omega, g, fun j j0 j1 n hn => ?_⟩
      by_cases q : j = c
      · rw [q] at hn; have := MX.uniq g hn; omega
      · have := h3 j j0 (by omega) n hn; omega
    · rw [e2, e3]
      refine ⟨by omega, h2, fun j j0 j1 n hn => ?_⟩
      by_cases q : j = c
      · rw [q] at hn; have := MX.uniq g hn; omega
      · exact h3 j j0 (by omega) n hn
noncomputable def askP (V : Nat → Int) (wh z : Int) : Prop := (z = -2 ∧ (wh < 0 ∨ 1 < wh)) ∨ ((0 ≤ wh ∧ wh ≤ 1) ∧ ∃ (x : Nat) (a m : Int), fitI V (V 7) x ∧ BE V x (szV V) a m ∧ ((wh = 0 ∧ z = a) ∨ (wh = 1 ∧ z = m)))
theorem U_ask {V : Nat → Int} {wh z z2 : Int} (h : askP V wh z) (g : askP V wh z2) : z2 = z := by
  rcases h with h | ⟨h0, x, a, m, h1, h2, h3⟩ <;> rcases g with g | ⟨g0, y, b, n, g1, g2, g3⟩
  · omega
  · omega
  · omega
  · have e := bt_un h1 g1
    subst e
    obtain ⟨e1, e2⟩ := BE.uniq h2 g2
    omega
theorem sqM_50 {V : Nat → Int} {a b : Int} (hv : (1 ≤ V 0 ∧ V 0 ≤ 6) ∧ 1 ≤ V 1 ∧ V 1 ≤ 6) (ha : 0 ≤ a ∧ a < szV V) (hb : 0 ≤ b ∧ b < szV V) : 0 ≤ sqM (V 1) a b ∧ sqM (V 1) a b ≤ 50 := by
  have d1 := dv_6 (c := a) (a := V 0) (b := V 1) ha.1 ha.2 hv.2.1 hv.2.2
  have d2 := dv_6 (c := b) (a := V 0) (b := V 1) hb.1 hb.2 hv.2.1 hv.2.2
  have q : ∀ e : Int, -5 ≤ e → e ≤ 5 → 0 ≤ e * e ∧ e * e ≤ 25 := fun e h1 h2 => by
    have : e = -5 ∨ e = -4 ∨ e = -3 ∨ e = -2 ∨ e = -1 ∨ e = 0 ∨ e = 1 ∨ e = 2 ∨ e = 3 ∨ e = 4 ∨ e = 5 := by omega
    rcases this with rfl | rfl | rfl | rfl | rfl | rfl | rfl | rfl | rfl | rfl | rfl <;> decide
  have q1 := q (a / V 1 - b / V 1) (by omega) (by omega)
  have q2 := q (a % V 1 - b % V 1) (by omega) (by omega)
  unfold sqM
  omega
theorem e_fill42L {d : Nat} {w00 : am_W} (v m : Int32) (hm : m.toInt = 51) : ∀ (k : Nat) (w : am_W) (i : Int32), (51 - i.toInt).toNat < k → 0 ≤ i.toInt → i.toInt ≤ 51 → ab_J ab_TT ab_sets ab_WR w00 w → only [42] w00 w → (∀ j : Nat, (j : Int) < i.toInt → rI w 42 j = v.toInt) → aw none d 192 (fun r w1 => r = none ∧ ab_J ab_TT ab_sets ab_WR w00 w1 ∧ only [42] w00 w1 ∧ ∀ j : Nat, j < 51 → rI w1 42 j = v.toInt) (5, [some (.ref 42), some (.int v), some (.int i), some (.int m)], []) w := by
  have va := ab_any32 v
  unfold ab_lo32 ab_hi32 at va
  intro k
  induction k with
  | zero => intro w i p; omega
  | succ k ih =>
    intro w i p1 p2 p3 J O F
    refine aw_step (f1 := (6, [some (.ref 42), some (.int v), some (.int i), some (.int m)], [(.int i)])) (w1 := w) rfl rfl ?_
    refine aw_step (f1 := (7, [some (.ref 42), some (.int v), some (.int i), some (.int m)], [(.int m), (.int i)])) (w1 := w) rfl rfl ?_
    refine s_ic 20 10 rfl rfl rfl (fun (h1 : m.toInt ≤ i.toInt) => ?_) (fun (h1 : ¬ (m.toInt ≤ i.toInt)) => ?_)
    · --
      refine aw_ret (v := none) rfl rfl ?_
      exact ⟨rfl, J, O, fun j hj => F j (by omega)⟩
    · --
      refine aw_step (f1 := (11, [some (.ref 42), some (.int v), some (.int i), some (.int m)], [(.ref 42)])) (w1 := w) rfl rfl ?_
      refine aw_step (f1 := (12, [some (.ref 42), some (.int v), some (.int i), some (.int m)], [(.int i), (.ref 42)])) (w1 := w) rfl rfl ?_
      refine aw_step (f1 := (13, [some (.ref 42), some (.int v), some (.int i), some (.int m)], [(.int v), (.int i), (.ref 42)])) (w1 := w) rfl rfl ?_
      refine s_is J 14 rfl rfl rfl rfl (by omega) (by omega) (by omega) (by omega) fun w2 J3 w2e => ?_
      have w2f := rI_st J.1 (p := 42) (j := i.toInt.toNat) rfl (by omega) w2e
      refine aw_step (f1 := (17, [some (.ref 42), some (.int v), some (.int (i + Int32.ofInt 1)), some (.int m)], [])) (w1 := w2) rfl rfl ?_
      obtain ⟨x4, x4e⟩ : ∃ z, z = (i + Int32.ofInt 1) := ⟨_, rfl⟩
      have x4t : x4.toInt = i.toInt + (1) := by rw [x4e]; exact n_add (y := Int32.ofInt (1)) (by show _ ≤ _ + (1 : Int); omega) (by show _ + (1 : Int) ≤ _; omega)
      rw [← x4e]
      refine aw_step (f1 := (5, [some (.ref 42), some (.int v), some (.int x4), some (.int m)], [])) (w1 := w2) rfl rfl ?_
      refine ih w2 x4 (by omega) (by omega) (by omega) J3 (O.trans w2f.1) (fun j hj => ?_)
      by_cases q : j = i.toInt.toNat
      · rw [q]; exact w2f.2.1
      · rw [w2f.2.2 j q]; exact F j (by omega)
theorem e_fill42 {d : Nat} {w : am_W} (v : Int32) (I : ab_inv ab_TT ab_sets w) : aw none d 192 (fun r w1 => r = none ∧ ab_J ab_TT ab_sets ab_WR w w1 ∧ only [42] w w1 ∧ ∀ j : Nat, j < 51 → rI w1 42 j = v.toInt) (0, am_entry 192 [.ref 42, .int v], []) w := by
  have J : ab_J ab_TT ab_sets ab_WR w w := ⟨I, ab_fr.rf⟩
  show aw none d 192 _ (0, [some (.ref 42), some (.int v), none, none], []) w
  refine s_i (pc1 := 1) (ls1 := [some (.ref 42), some (.int v), none, none]) (st1 := []) rfl rfl fun x1 e2 => ?_
  have e2t : x1.toInt = 0 := by rw [e2]; rfl
  refine aw_step (f1 := (2, [some (.ref 42), some (.int v), some (.int x1), none], [])) (w1 := w) rfl rfl ?_
  refine aw_step (f1 := (3, [some (.ref 42), some (.int v), some (.int x1), none], [(.ref 42)])) (w1 := w) rfl rfl ?_
  refine s_al J 4 rfl rfl rfl rfl (by decide) fun x3 x3t => ?_
  refine aw_step (f1 := (5, [some (.ref 42), some (.int v), some (.int x1), some (.int x3)], [])) (w1 := w) rfl rfl ?_
  exact e_fill42L v x3 (by omega) 52 w x1 (by omega) (by omega) (by omega) J only.rf (fun j hj => by omega)
theorem e_mlL {d : Nat} {w00 : am_W} {V : Nat → Int} (R00 : RCs w00 3 V) (x : Int64) (k : Int32) (hk : 0 ≤ k.toInt ∧ k.toInt < szV V) (xb : ∀ j, (szV V).toNat ≤ j → bt (n64 x) j = 0) (I0 : ab_inv ab_TT ab_sets w00) : ∀ (m : Nat) (w : am_W) (ms c : Int32) (o6 : Option Value), (szV V - c.toInt).toNat < m → 0 ≤ c.toInt → c.toInt ≤ szV V → ab_J ab_TT ab_sets ab_WR w00 w → only [42] w00 w → (∀ u : Nat, u < 51 → rI w 42 u = cA V (n64 x) k.toInt u c.toInt.toNat) → MX (fun v => cA V (n64 x) k.toInt v c.toInt.toNat) 51 ms.toInt → aw none (d + 1) 98 (fun r w1 => ab_J ab_TT ab_sets ab_WR w00 w1 ∧ only [42] w00 w1 ∧ ∃ z : Int32, r = some (.int z) ∧ mxA V (n64 x) k.toInt z.toInt ∧ z.toInt ≤ 36) (14, [some (.ref 0), some (.long x), none, some (.int k), some (.int ms), some (.int c), o6], []) w := by
  have szc := szC_in I0
  have hsz := R00.sz
  have f0 := R00.f0
  have f1 := R00.f1
  have b0 := fI_in (p := 3) (k := 0) I0 rfl rfl
  have b1 := fI_in (p := 3) (k := 1) I0 rfl rfl
  have hv : (1 ≤ V 0 ∧ V 0 ≤ 6) ∧ 1 ≤ V 1 ∧ V 1 ≤ 6 := by omega
  intro m
  induction m with
  | zero => intro w ms c o6 p; omega
  | succ m ih =>
    intro w ms c o6 p1 p2 p3 J O T M
    have R := R00.of O (by decide)
    have hs2 := R.sz
    refine aw_step (f1 := (16, [some (.ref 0), some (.long x), none, some (.int k), some (.int ms), some (.int c), o6], [(.int c)])) (w1 := w) rfl rfl ?_
    refine aw_step (f1 := (17, [some (.ref 0), some (.long x), none, some (.int k), some (.int ms), some (.int c), o6], [(.ref 0), (.int c)])) (w1 := w) rfl rfl ?_
    refine s_gr 3 J 20 rfl rfl rfl rfl rfl rfl ?_
    refine s_cv (z := 38) (p := 3) (as := []) (st1 := [(.int c)]) J 23 rfl rfl rfl rfl rfl rfl rfl rfl (Nat.le_of_ble_eq_true rfl) (Nat.le_of_ble_eq_true rfl) (q_size J.1) ?_
    rintro _ _ ⟨rfl, x1, rfl, x1t⟩
    refine ⟨rfl, ?_⟩
    show aw none _ 98 _ (23, [some (.ref 0), some (.long x), none, some (.int k), some (.int ms), some (.int c), o6], [(.int x1), (.int c)]) w
    refine s_ic 89 26 rfl rfl rfl (fun (h2 : x1.toInt ≤ c.toInt) => ?_) (fun (h2 : ¬ (x1.toInt ≤ c.toInt)) => ?_)
    · --
      refine aw_step (f1 := (91, [some (.ref 0), some (.long x), none, some (.int k), some (.int ms), some (.int c), o6], [(.int ms)])) (w1 := w) rfl rfl ?_
      refine aw_ret (v := some (.int ms)) rfl rfl ?_
      rw [show c.toInt.toNat = (szV V).toNat by omega] at M
      have tp : (fun v => cA V (n64 x) k.toInt v 64) = fun v => cA V (n64 x) k.toInt v (szV V).toNat := funext fun v => by
        have q := cA_top (V := V) (x := n64 x) (k := k.toInt) (v := v) (N := (szV V).toNat) xb (64 - (szV V).toNat)
        rw [show (szV V).toNat + (64 - (szV V).toNat) = 64 by omega] at q
        exact q
      refine ⟨J, O, ms, rfl, by unfold mxA; rw [tp]; exact M, ?_⟩
      rcases M.2.2 with q | ⟨v, v1, v2, v3⟩
      · omega
      · have := cA_le (V := V) (x := n64 x) (k := k.toInt) (v := v) (szV V).toNat
        have v4 : ((cA V (n64 x) k.toInt v (szV V).toNat : Nat) : Int) = ms.toInt := v3
        omega
    · --
      refine aw_step (f1 := (27, [some (.ref 0), some (.long x), none, some (.int k), some (.int ms), some (.int c), o6], [(.long x)])) (w1 := w) rfl rfl ?_
      refine aw_step (f1 := (29, [some (.ref 0), some (.long x), none, some (.int k), some (.int ms), some (.int c), o6], [(.int c), (.long x)])) (w1 := w) rfl rfl ?_
      refine s_cs (z := 105) (as := [(.long x), (.int c)]) (st1 := []) 32 rfl rfl rfl rfl rfl rfl (Nat.le_of_ble_eq_true rfl) (Nat.le_of_ble_eq_true rfl) (Nat.le_of_ble_eq_true rfl) (q_hasC x c (by omega) (by omega)) ?_
      rintro _ _ ⟨rfl, x3, rfl, x3t⟩
      refine ⟨rfl, ?_⟩
      show aw none _ 98 _ (32, [some (.ref 0), some (.long x), none, some (.int k), some (.int ms), some (.int c), o6], [(.int x3)]) w
      have x3l := bt_le (n64 x) c.toInt.toNat
      refine s_if 83 35 rfl rfl rfl (fun (h4 : x3.toInt = 0) => ?_) (fun (h4 : ¬ (x3.toInt = 0)) => ?_)
      · --
        refine aw_step (f1 := (86, [some (.ref 0), some (.long x), none, some (.int k), some (.int ms), some (.int (c + Int32.ofInt 1)), o6], [])) (w1 := w) rfl rfl ?_
        obtain ⟨x5, x5e⟩ : ∃ z, z = (c + Int32.ofInt 1) := ⟨_, rfl⟩
        have x5t : x5.toInt = c.toInt + (1) := by rw [x5e]; exact n_add (y := Int32.ofInt (1)) (by show _ ≤ _ + (1 : Int); omega) (by show _ + (1 : Int) ≤ _; omega)
        rw [← x5e]
        refine aw_step (f1 := (14, [some (.ref 0), some (.long x), none, some (.int k), some (.int ms), some (.int x5), o6], [])) (w1 := w) rfl rfl ?_
        refine ih w ms x5 _ (by omega) (by omega) (by omega) J O (fun u hu => ?_) ?_
        · rw [show x5.toInt.toNat = c.toInt.toNat + 1 by omega, cA_no (by omega)]; exact T u hu
        · rw [show x5.toInt.toNat = c.toInt.toNat + 1 by omega, show (fun v => cA V (n64 x) k.toInt v (c.toInt.toNat + 1)) = fun v => cA V (n64 x) k.toInt v c.toInt.toNat from funext fun v => cA_no (by omega)]; exact M
      · --
        refine aw_step (f1 := (36, [some (.ref 0), some (.long x), none, some (.int k), some (.int ms), some (.int c), o6], [(.ref 0)])) (w1 := w) rfl rfl ?_
        refine s_gr 3 J 39 rfl rfl rfl rfl rfl rfl ?_
        refine aw_step (f1 := (40, [some (.ref 0), some (.long x), none, some (.int k), some (.int ms), some (.int c), o6], [(.int k), (.ref 3)])) (w1 := w) rfl rfl ?_
        refine aw_step (f1 := (42, [some (.ref 0), some (.long x), none, some (.int k), some (.int ms), some (.int c), o6], [(.int c), (.int k), (.ref 3)])) (w1 := w) rfl rfl ?_
        refine s_cv (z := 43) (p := 3) (as := [(.int k), (.int c)]) (st1 := []) J 45 rfl rfl rfl rfl rfl rfl rfl rfl (Nat.le_of_ble_eq_true rfl) (Nat.le_of_ble_eq_true rfl) (e_sqB R k c ⟨by omega, by omega⟩ ⟨by omega, by omega⟩ J.1) ?_
        rintro _ _ ⟨rfl, x6, rfl, x6t⟩
        refine ⟨rfl, ?_⟩
        show aw none _ 98 _ (45, [some (.ref 0), some (.long x), none, some (.int k), some (.int ms), some (.int c), o6], [(.int x6)]) w
        have sb := sqM_50 (V := V) (a := k.toInt) (b := c.toInt) hv ⟨by omega, by omega⟩ ⟨by omega, by omega⟩
        refine aw_step (f1 := (47, [some (.ref 0), some (.long x), none, some (.int k), some (.int ms), some (.int c), some (.int x6)], [])) (w1 := w) rfl rfl ?_
        refine aw_step (f1 := (49, [some (.ref 0), some (.long x), none, some (.int k), some (.int ms), some (.int c), some (.int x6)], [(.int x6)])) (w1 := w) rfl rfl ?_
        refine s_i (pc1 := 50) (ls1 := [some (.ref 0), some (.long x), none, some (.int k), some (.int ms), some (.int c), some (.int x6)]) (st1 := [(.int x6)]) rfl rfl fun x7 e8 => ?_
        have e8t : x7.toInt = 0 := by rw [e8]; rfl
        refine s_i (pc1 := 52) (ls1 := [some (.ref 0), some (.long x), none, some (.int k), some (.int ms), some (.int c), some (.int x6)]) (st1 := [(.int x7), (.int x6)]) rfl rfl fun x9 e10 => ?_
        have e10t : x9.toInt = 50 := by rw [e10]; rfl
        refine s_cs (z := 102) (as := [(.int x6), (.int x7), (.int x9)]) (st1 := []) 55 rfl rfl rfl rfl rfl rfl (Nat.le_of_ble_eq_true rfl) (Nat.le_of_ble_eq_true rfl) (Nat.le_of_ble_eq_true rfl) (q_within x6 x7 x9) ?_
        rintro _ _ ⟨rfl, x11, rfl, x11t⟩
        refine ⟨rfl, ?_⟩
        show aw none _ 98 _ (55, [some (.ref 0), some (.long x), none, some (.int k), some (.int ms), some (.int c), some (.int x6)], [(.int x11)]) w
        refine s_if 83 58 rfl rfl rfl (fun (h12 : x11.toInt = 0) => ?_) (fun (h12 : ¬ (x11.toInt = 0)) => ?_)
        · --
          refine aw_step (f1 := (86, [some (.ref 0), some (.long x), none, some (.int k), some (.int ms), some (.int (c + Int32.ofInt 1)), some (.int x6)], [])) (w1 := w) rfl rfl ?_
          obtain ⟨x13, x13e⟩ : ∃ z, z = (c + Int32.ofInt 1) := ⟨_, rfl⟩
          have x13t : x13.toInt = c.toInt + (1) := by rw [x13e]; exact n_add (y := Int32.ofInt (1)) (by show _ ≤ _ + (1 : Int); omega) (by show _ + (1 : Int) ≤ _; omega)
          rw [← x13e]
          refine aw_step (f1 := (14, [some (.ref 0), some (.long x), none, some (.int k), some (.int ms), some (.int x13), some (.int x6)], [])) (w1 := w) rfl rfl ?_
          refine ih w ms x13 _ (by omega) (by omega) (by omega) J O (fun u hu => ?_) ?_
          · rw [show x13.toInt.toNat = c.toInt.toNat + 1 by omega, cA_no (by omega)]; exact T u hu
          · rw [show x13.toInt.toNat = c.toInt.toNat + 1 by omega, show (fun v => cA V (n64 x) k.toInt v (c.toInt.toNat + 1)) = fun v => cA V (n64 x) k.toInt v c.toInt.toNat from funext fun v => cA_no (by omega)]; exact M
        · --
          refine aw_step (f1 := (59, [some (.ref 0), some (.long x), none, some (.int k), some (.int ms), some (.int c), some (.int x6)], [(.ref 0)])) (w1 := w) rfl rfl ?_
          refine s_gr 42 J 62 rfl rfl rfl rfl rfl rfl ?_
          refine aw_step (f1 := (64, [some (.ref 0), some (.long x), none, some (.int k), some (.int ms), some (.int c), some (.int x6)], [(.int x6), (.ref 42)])) (w1 := w) rfl rfl ?_
          refine aw_step (f1 := (65, [some (.ref 0), some (.long x), none, some (.int k), some (.int ms), some (.int c), some (.int x6)], [(.int x6), (.ref 42), (.int x6), (.ref 42)])) (w1 := w) rfl rfl ?_
          --
          refine s_ia J 66 rfl rfl rfl rfl (by omega) (by omega) fun x14 x14a x14b x14f => ?_
          have x14v : x14.toInt = rI w 42 x6.toInt.toNat := by rw [← rI_of x14f]
          have tv : x14.toInt = rI w 42 x6.toInt.toNat := (rI_of x14f).symm
          have tb := T x6.toInt.toNat (by omega)
          have tl := cA_le (V := V) (x := n64 x) (k := k.toInt) (v := ((x6.toInt.toNat : Nat) : Int)) c.toInt.toNat
          refine s_i (pc1 := 67) (ls1 := [some (.ref 0), some (.long x), none, some (.int k), some (.int ms), some (.int c), some (.int x6)]) (st1 := [(.int x14), (.int x6), (.ref 42)]) rfl rfl fun x15 e16 => ?_
          have e16t : x15.toInt = 1 := by rw [e16]; rfl
          refine s_i (pc1 := 68) (ls1 := [some (.ref 0), some (.long x), none, some (.int k), some (.int ms), some (.int c), some (.int x6)]) (st1 := [(.int x6), (.ref 42)]) rfl rfl fun x17 e18 => ?_
          have e18 : x17 = x14 + x15 := e18
          have e18t : x17.toInt = x14.toInt + x15.toInt := by rw [e18]; exact n_add (by omega) (by omega)
          refine s_is J 69 rfl rfl rfl rfl (by omega) (by omega) (by omega) (by omega) fun w19 J20 w19e => ?_
          have w19f := rI_st J.1 (p := 42) (j := x6.toInt.toNat) rfl (by omega) w19e
          refine aw_step (f1 := (71, [some (.ref 0), some (.long x), none, some (.int k), some (.int ms), some (.int c), some (.int x6)], [(.int ms)])) (w1 := w19) rfl rfl ?_
          refine aw_step (f1 := (72, [some (.ref 0), some (.long x), none, some (.int k), some (.int ms), some (.int c), some (.int x6)], [(.ref 0), (.int ms)])) (w1 := w19) rfl rfl ?_
          refine s_gr 42 J20 75 rfl rfl rfl rfl rfl rfl ?_
          refine aw_step (f1 := (77, [some (.ref 0), some (.long x), none, some (.int k), some (.int ms), some (.int c), some (.int x6)], [(.int x6), (.ref 42), (.int ms)])) (w1 := w19) rfl rfl ?_
          refine s_ia J20 78 rfl rfl rfl rfl (by omega) (by omega) fun x21 x21a x21b x21f => ?_
          --
          --
          refine s_i (pc1 := 81) (ls1 := [some (.ref 0), some (.long x), none, some (.int k), some (.int ms), some (.int c), some (.int x6)]) (st1 := []) rfl rfl fun x22 e23 => ?_
          have e23t : x22.toInt = if ms.toInt < x21.toInt then x21.toInt else ms.toInt := by rw [e23]; exact n_mx
          refine aw_step (f1 := (83, [some (.ref 0), some (.long x), none, some (.int k), some (.int x22), some (.int c), some (.int x6)], [])) (w1 := w19) rfl rfl ?_
          refine aw_step (f1 := (86, [some (.ref 0), some (.long x), none, some (.int k), some (.int x22), some (.int (c + Int32.ofInt 1)), some (.int x6)], [])) (w1 := w19) rfl rfl ?_
          obtain ⟨x24, x24e⟩ : ∃ z, z = (c + Int32.ofInt 1) := ⟨_, rfl⟩
          have x24t : x24.toInt = c.toInt + (1) := by rw [x24e]; exact n_add (y := Int32.ofInt (1)) (by show _ ≤ _ + (1 : Int); omega) (by show _ + (1 : Int) ≤ _; omega)
          rw [← x24e]
          refine aw_step (f1 := (14, [some (.ref 0), some (.long x), none, some (.int k), some (.int x22), some (.int x24), some (.int x6)], [])) (w1 := w19) rfl rfl ?_
          have hsq : sqM (V 1) k.toInt (c.toInt.toNat : Nat) = x6.toInt := by rw [show ((c.toInt.toNat : Nat) : Int) = c.toInt by omega]; omega
          have hb1 : bt (n64 x) c.toInt.toNat = 1 := by omega
          have t0 := T x6.toInt.toNat (by omega)
          rw [show ((x6.toInt.toNat : Nat) : Int) = x6.toInt by omega] at t0
          have ey := cA_ye (V := V) (x := n64 x) (k := k.toInt) (v := x6.toInt) ⟨hb1, hsq⟩
          have en : ∀ v, v ≠ x6.toInt → cA V (n64 x) k.toInt v (c.toInt.toNat + 1) = cA V (n64 x) k.toInt v c.toInt.toNat := fun v hv => cA_no (fun q => hv (by omega))
          have mx := e23t
          refine ih w19 x22 x24 _ (by omega) (by omega) (by omega) J20 (O.trans w19f.1) (fun u hu => ?_) ?_
          · rw [show x24.toInt.toNat = c.toInt.toNat + 1 by omega]
            by_cases q : u = x6.toInt.toNat
            · rw [q, w19f.2.1, show ((x6.toInt.toNat : Nat) : Int) = x6.toInt by omega, ey]; omega
            · rw [w19f.2.2 u q, en u (by omega)]; exact T u hu
          · rw [show x24.toInt.toNat = c.toInt.toNat + 1 by omega]
            refine M.up (v0 := x6.toInt) ⟨by omega, by omega⟩ ey en ?_
            have rd : x21.toInt = x17.toInt := by rw [← rI_of x21f]; exact w19f.2.1
            rw [ey]
            split at mx
            · exact Or.inl ⟨by omega, by omega⟩
            · exact Or.inr ⟨by omega, by omega⟩
theorem e_mostLeft {d : Nat} {w : am_W} {V : Nat → Int} (R : RCs w 3 V) (x : Int64) (k : Int32) (hk : 0 ≤ k.toInt ∧ k.toInt < szV V) (xb : ∀ j, (szV V).toNat ≤ j → bt (n64 x) j = 0) (I : ab_inv ab_TT ab_sets w) : aw none (d + 1) 98 (fun r w1 => ab_J ab_TT ab_sets ab_WR w w1 ∧ only [42] w w1 ∧ ∃ z : Int32, r = some (.int z) ∧ mxA V (n64 x) k.toInt z.toInt ∧ z.toInt ≤ 36) (0, am_entry 98 [.ref 0, .long x, .int k], []) w := by
  have J : ab_J ab_TT ab_sets ab_WR w w := ⟨I, ab_fr.rf⟩
  have szc := szC_in I
  have hsz := R.sz
  show aw none (d + 1) 98 _ (0, [some (.ref 0), some (.long x), none, some (.int k), none, none, none], []) w
  refine aw_step (f1 := (1, [some (.ref 0), some (.long x), none, some (.int k), none, none, none], [(.ref 0)])) (w1 := w) rfl rfl ?_
  refine s_gr 42 J 4 rfl rfl rfl rfl rfl rfl ?_
  refine s_i (pc1 := 5) (ls1 := [some (.ref 0), some (.long x), none, some (.int k), none, none, none]) (st1 := [(.ref 42)]) rfl rfl fun x1 e2 => ?_
  have e2t : x1.toInt = 0 := by rw [e2]; rfl
  refine s_cs (z := 192) (as := [(.ref 42), (.int x1)]) (st1 := []) 8 rfl rfl rfl rfl rfl rfl (Nat.le_of_ble_eq_true rfl) (Nat.le_of_ble_eq_true rfl) (Nat.le_of_ble_eq_true rfl) (e_fill42 x1 J.1) ?_
  rintro _ w3 ⟨rfl, J4c, w3o, w3p⟩
  have J4 := J.trans J4c
  refine ⟨am_len2 J J4c, ?_⟩
  show aw none _ 98 _ (8, [some (.ref 0), some (.long x), none, some (.int k), none, none, none], []) w3
  refine s_i (pc1 := 9) (ls1 := [some (.ref 0), some (.long x), none, some (.int k), none, none, none]) (st1 := []) rfl rfl fun x5 e6 => ?_
  have e6t : x5.toInt = 0 := by rw [e6]; rfl
  refine aw_step (f1 := (11, [some (.ref 0), some (.long x), none, some (.int k), some (.int x5), none, none], [])) (w1 := w3) rfl rfl ?_
  refine s_i (pc1 := 12) (ls1 := [some (.ref 0), some (.long x), none, some (.int k), some (.int x5), none, none]) (st1 := []) rfl rfl fun x7 e8 => ?_
  have e8t : x7.toInt = 0 := by rw [e8]; rfl
  refine aw_step (f1 := (14, [some (.ref 0), some (.long x), none, some (.int k), some (.int x5), some (.int x7), none], [])) (w1 := w3) rfl rfl ?_
  exact e_mlL R x k hk xb I 37 w3 x5 x7 _ (by omega) (by omega) (by omega) J4 w3o (fun u hu => by rw [w3p u hu, show x7.toInt.toNat = 0 by omega]; show _ = (0 : Int); omega) (by rw [show x7.toInt.toNat = 0 by omega, show x5.toInt = 0 by omega]; exact ⟨fun v a b => Int.le_refl _, Int.le_refl _, Or.inl rfl⟩)
theorem e_askL {d : Nat} {w00 : am_W} {V : Nat → Int} (R00 : RCs w00 3 V) (wh : Int32) (x : Int64) (hwh : 0 ≤ wh.toInt ∧ wh.toInt ≤ 1) (fx : fitI V (V 7) (n64 x)) (xb : ∀ j, (szV V).toNat ≤ j → bt (n64 x) j = 0) (I0 : ab_inv ab_TT ab_sets w00) : ∀ (k : Nat) (w : am_W) (a m c : Int32) (o7 : Option Value), (szV V - c.toInt).toNat < k → 0 ≤ c.toInt → c.toInt ≤ szV V → ab_J ab_TT ab_sets ab_WR w00 w → only [42] w00 w → ((c.toInt = 0 ∧ 36 < m.toInt) ∨ BE V (n64 x) c.toInt a.toInt m.toInt) → aw none (d + 2) 86 (fun r w1 => ab_J ab_TT ab_sets ab_WR w00 w1 ∧ ∃ z : Int32, r = some (.int z) ∧ askP V wh.toInt z.toInt) (30, [some (.ref 0), some (.int wh), some (.long x), none, some (.int a), some (.int m), some (.int c), o7], []) w := by
  have szc := szC_in I0
  have hsz := R00.sz
  intro k
  induction k with
  | zero => intro w a m c o7 p; omega
  | succ k ih =>
    intro w a m c o7 p1 p2 p3 J O B
    have R := R00.of O (by decide)
    have hs2 := R.sz
    refine aw_step (f1 := (32, [some (.ref 0), some (.int wh), some (.long x), none, some (.int a), some (.int m), some (.int c), o7], [(.int c)])) (w1 := w) rfl rfl ?_
    refine aw_step (f1 := (33, [some (.ref 0), some (.int wh), some (.long x), none, some (.int a), some (.int m), some (.int c), o7], [(.ref 0), (.int c)])) (w1 := w) rfl rfl ?_
    refine s_gr 3 J 36 rfl rfl rfl rfl rfl rfl ?_
    refine s_cv (z := 38) (p := 3) (as := []) (st1 := [(.int c)]) J 39 rfl rfl rfl rfl rfl rfl rfl rfl (Nat.le_of_ble_eq_true rfl) (Nat.le_of_ble_eq_true rfl) (q_size J.1) ?_
    rintro _ _ ⟨rfl, x1, rfl, x1t⟩
    refine ⟨rfl, ?_⟩
    show aw none _ 86 _ (39, [some (.ref 0), some (.int wh), some (.long x), none, some (.int a), some (.int m), some (.int c), o7], [(.int x1), (.int c)]) w
    refine s_ic 72 42 rfl rfl rfl (fun (h2 : x1.toInt ≤ c.toInt) => ?_) (fun (h2 : ¬ (x1.toInt ≤ c.toInt)) => ?_)
    · --
      refine aw_step (f1 := (73, [some (.ref 0), some (.int wh), some (.long x), none, some (.int a), some (.int m), some (.int c), o7], [(.int wh)])) (w1 := w) rfl rfl ?_
      refine s_if 81 76 rfl rfl rfl (fun (h3 : ¬ wh.toInt = 0) => ?_) (fun (h3 : ¬ (¬ wh.toInt = 0)) => ?_)
      · --
        refine aw_step (f1 := (83, [some (.ref 0), some (.int wh), some (.long x), none, some (.int a), some (.int m), some (.int c), o7], [(.int m)])) (w1 := w) rfl rfl ?_
        refine aw_ret (v := some (.int m)) rfl rfl ?_
        have B2 : BE V (n64 x) (szV V) a.toInt m.toInt := by
          rw [← show c.toInt = szV V by omega]
          exact B.resolve_left (fun q => by omega)
        clear B
        exact ⟨J, m, rfl, Or.inr ⟨⟨by omega, by omega⟩, n64 x, _, _, fx, B2, by first | exact Or.inl ⟨by omega, by omega⟩ | exact Or.inr ⟨by omega, by omega⟩⟩⟩
      · --
        refine aw_step (f1 := (78, [some (.ref 0), some (.int wh), some (.long x), none, some (.int a), some (.int m), some (.int c), o7], [(.int a)])) (w1 := w) rfl rfl ?_
        refine aw_step (f1 := (83, [some (.ref 0), some (.int wh), some (.long x), none, some (.int a), some (.int m), some (.int c), o7], [(.int a)])) (w1 := w) rfl rfl ?_
        refine aw_ret (v := some (.int a)) rfl rfl ?_
        have B2 : BE V (n64 x) (szV V) a.toInt m.toInt := by
          rw [← show c.toInt = szV V by omega]
          exact B.resolve_left (fun q => by omega)
        clear B
        exact ⟨J, a, rfl, Or.inr ⟨⟨by omega, by omega⟩, n64 x, _, _, fx, B2, by first | exact Or.inl ⟨by omega, by omega⟩ | exact Or.inr ⟨by omega, by omega⟩⟩⟩
    · --
      refine aw_step (f1 := (43, [some (.ref 0), some (.int wh), some (.long x), none, some (.int a), some (.int m), some (.int c), o7], [(.ref 0)])) (w1 := w) rfl rfl ?_
      refine aw_step (f1 := (44, [some (.ref 0), some (.int wh), some (.long x), none, some (.int a), some (.int m), some (.int c), o7], [(.long x), (.ref 0)])) (w1 := w) rfl rfl ?_
      refine aw_step (f1 := (46, [some (.ref 0), some (.int wh), some (.long x), none, some (.int a), some (.int m), some (.int c), o7], [(.int c), (.long x), (.ref 0)])) (w1 := w) rfl rfl ?_
      refine s_cv (z := 98) (p := 0) (as := [(.long x), (.int c)]) (st1 := []) J 49 rfl rfl rfl rfl rfl rfl rfl rfl (Nat.le_of_ble_eq_true rfl) (Nat.le_of_ble_eq_true rfl) (e_mostLeft R x c ⟨by omega, by omega⟩ xb J.1) ?_
      rintro _ w5 ⟨J6c, w5o, x4, rfl, x4t, x4u⟩
      have J6 := J.trans J6c
      refine ⟨am_len2 J J6c, ?_⟩
      show aw none _ 86 _ (49, [some (.ref 0), some (.int wh), some (.long x), none, some (.int a), some (.int m), some (.int c), o7], [(.int x4)]) w5
      refine aw_step (f1 := (51, [some (.ref 0), some (.int wh), some (.long x), none, some (.int a), some (.int m), some (.int c), some (.int x4)], [])) (w1 := w5) rfl rfl ?_
      refine aw_step (f1 := (53, [some (.ref 0), some (.int wh), some (.long x), none, some (.int a), some (.int m), some (.int c), some (.int x4)], [(.int x4)])) (w1 := w5) rfl rfl ?_
      refine aw_step (f1 := (55, [some (.ref 0), some (.int wh), some (.long x), none, some (.int a), some (.int m), some (.int c), some (.int x4)], [(.int m), (.int x4)])) (w1 := w5) rfl rfl ?_
      refine s_ic 66 58 rfl rfl rfl (fun (h7 : m.toInt ≤ x4.toInt) => ?_) (fun (h7 : ¬ (m.toInt ≤ x4.toInt)) => ?_)
      · --
        refine aw_step (f1 := (69, [some (.ref 0), some (.int wh), some (.long x), none, some (.int a), some (.int m), some (.int (c + Int32.ofInt 1)), some (.int x4)], [])) (w1 := w5) rfl rfl ?_
        obtain ⟨x8, x8e⟩ : ∃ z, z = (c + Int32.ofInt 1) := ⟨_, rfl⟩
        have x8t : x8.toInt = c.toInt + (1) := by rw [x8e]; exact n_add (y := Int32.ofInt (1)) (by show _ ≤ _ + (1 : Int); omega) (by show _ + (1 : Int) ≤ _; omega)
        rw [← x8e]
        refine aw_step (f1 := (30, [some (.ref 0), some (.int wh), some (.long x), none, some (.int a), some (.int m), some (.int x8), some (.int x4)], [])) (w1 := w5) rfl rfl ?_
        refine ih w5 a m x8 _ (by omega) (by omega) (by omega) J6 (O.trans w5o) (Or.inr ?_)
        rw [show x8.toInt = c.toInt + 1 by omega]
        exact BE.st (V := V) B (by omega) x4t (by omega) (by omega)
      · --
        refine aw_step (f1 := (60, [some (.ref 0), some (.int wh), some (.long x), none, some (.int a), some (.int m), some (.int c), some (.int x4)], [(.int x4)])) (w1 := w5) rfl rfl ?_
        refine aw_step (f1 := (62, [some (.ref 0), some (.int wh), some (.long x), none, some (.int a), some (.int x4), some (.int c), some (.int x4)], [])) (w1 := w5) rfl rfl ?_
        refine aw_step (f1 := (64, [some (.ref 0), some (.int wh), some (.long x), none, some (.int a), some (.int x4), some (.int c), some (.int x4)], [(.int c)])) (w1 := w5) rfl rfl ?_
        refine aw_step (f1 := (66, [some (.ref 0), some (.int wh), some (.long x), none, some (.int c), some (.int x4), some (.int c), some (.int x4)], [])) (w1 := w5) rfl rfl ?_
        refine aw_step (f1 := (69, [some (.ref 0), some (.int wh), some (.long x), none, some (.int c), some (.int x4), some (.int (c + Int32.ofInt 1)), some (.int x4)], [])) (w1 := w5) rfl rfl ?_
        obtain ⟨x9, x9e⟩ : ∃ z, z = (c + Int32.ofInt 1) := ⟨_, rfl⟩
        have x9t : x9.toInt = c.toInt + (1) := by rw [x9e]; exact n_add (y := Int32.ofInt (1)) (by show _ ≤ _ + (1 : Int); omega) (by show _ + (1 : Int) ≤ _; omega)
        rw [← x9e]
        refine aw_step (f1 := (30, [some (.ref 0), some (.int wh), some (.long x), none, some (.int c), some (.int x4), some (.int x9), some (.int x4)], [])) (w1 := w5) rfl rfl ?_
        refine ih w5 c x4 x9 _ (by omega) (by omega) (by omega) J6 (O.trans w5o) (Or.inr ?_)
        rw [show x9.toInt = c.toInt + 1 by omega]
        exact BE.st (V := V) B (by omega) x4t (by omega) (by omega)
theorem fit_xb {V : Nat → Int} {i : Int} {x : Nat} (h : fitI V i x) : ∀ j, (szV V).toNat ≤ j → bt x j = 0 := fun j hj => by
  have l := bt_le x j
  have : ¬ bt x j = 1 := fun q => by have := ((h j).mp q).1.1; omega
  omega
theorem wher_fit {V : Nat → Int} {y : Int64} (h : wherP V y.toInt) (hz : szV V ≤ 36) : fitI V (V 7) (n64 y) := by
  obtain ⟨x, h1, h2⟩ := h
  have l := h1.lt hz
  have e : n64 y = x := by
    have := n64_of (x := y) (by omega)
    omega
  rw [e]; exact h1
theorem e_ask {d : Nat} {w : am_W} {V : Nat → Int} (R : RCs w 3 V) (mv : mkV V) (wh : Int32) (I : ab_inv ab_TT ab_sets w) : aw none (d + 5) 86 (fun r w1 => ab_J ab_TT ab_sets ab_WR w w1 ∧ ∃ z : Int32, r = some (.int z) ∧ askP V wh.toInt z.toInt) (0, am_entry 86 [.ref 0, .int wh], []) w := by
  have J : ab_J ab_TT ab_sets ab_WR w w := ⟨I, ab_fr.rf⟩
  have szc := szC_in I
  have hsz := R.sz
  show aw none (d + 5) 86 _ (0, [some (.ref 0), some (.int wh), none, none, none, none, none, none], []) w
  refine aw_step (f1 := (1, [some (.ref 0), some (.int wh), none, none, none, none, none, none], [(.int wh)])) (w1 := w) rfl rfl ?_
  refine s_i (pc1 := 2) (ls1 := [some (.ref 0), some (.int wh), none, none, none, none, none, none]) (st1 := [(.int wh)]) rfl rfl fun x1 e2 => ?_
  have e2t : x1.toInt = 0 := by rw [e2]; rfl
  refine s_i (pc1 := 3) (ls1 := [some (.ref 0), some (.int wh), none, none, none, none, none, none]) (st1 := [(.int x1), (.int wh)]) rfl rfl fun x3 e4 => ?_
  have e4t : x3.toInt = 1 := by rw [e4]; rfl
  refine s_cs (z := 102) (as := [(.int wh), (.int x1), (.int x3)]) (st1 := []) 6 rfl rfl rfl rfl rfl rfl (Nat.le_of_ble_eq_true rfl) (Nat.le_of_ble_eq_true rfl) (Nat.le_of_ble_eq_true rfl) (q_within wh x1 x3) ?_
  rintro _ _ ⟨rfl, x5, rfl, x5t⟩
  refine ⟨rfl, ?_⟩
  show aw none _ 86 _ (6, [some (.ref 0), some (.int wh), none, none, none, none, none, none], [(.int x5)]) w
  refine s_if 12 9 rfl rfl rfl (fun (h6 : ¬ x5.toInt = 0) => ?_) (fun (h6 : ¬ (¬ x5.toInt = 0)) => ?_)
  · --
    refine aw_step (f1 := (13, [some (.ref 0), some (.int wh), none, none, none, none, none, none], [(.ref 0)])) (w1 := w) rfl rfl ?_
    refine s_gr 3 J 16 rfl rfl rfl rfl rfl rfl ?_
    refine s_cv (z := 47) (p := 3) (as := []) (st1 := []) J 19 rfl rfl rfl rfl rfl rfl rfl rfl (Nat.le_of_ble_eq_true rfl) (Nat.le_of_ble_eq_true rfl) (e_fitting R mv J.1) ?_
    rintro _ _ ⟨rfl, y7, rfl, y7t⟩
    refine ⟨rfl, ?_⟩
    show aw none _ 86 _ (19, [some (.ref 0), some (.int wh), none, none, none, none, none, none], [(.long y7)]) w
    refine aw_step (f1 := (20, [some (.ref 0), some (.int wh), some (.long y7), none, none, none, none, none], [])) (w1 := w) rfl rfl ?_
    refine s_i (pc1 := 21) (ls1 := [some (.ref 0), some (.int wh), some (.long y7), none, none, none, none, none]) (st1 := []) rfl rfl fun x8 e9 => ?_
    have e9t : x8.toInt = 0 := by rw [e9]; rfl
    refine aw_step (f1 := (23, [some (.ref 0), some (.int wh), some (.long y7), none, some (.int x8), none, none, none], [])) (w1 := w) rfl rfl ?_
    refine s_i (pc1 := 25) (ls1 := [some (.ref 0), some (.int wh), some (.long y7), none, some (.int x8), none, none, none]) (st1 := []) rfl rfl fun x10 e11 => ?_
    have e11t : x10.toInt = 37 := by rw [e11]; rfl
    refine aw_step (f1 := (27, [some (.ref 0), some (.int wh), some (.long y7), none, some (.int x8), some (.int x10), none, none], [])) (w1 := w) rfl rfl ?_
    refine s_i (pc1 := 28) (ls1 := [some (.ref 0), some (.int wh), some (.long y7), none, some (.int x8), some (.int x10), none, none]) (st1 := []) rfl rfl fun x12 e13 => ?_
    have e13t : x12.toInt = 0 := by rw [e13]; rfl
    refine aw_step (f1 := (30, [some (.ref 0), some (.int wh), some (.long y7), none, some (.int x8), some (.int x10), some (.int x12), none], [])) (w1 := w) rfl rfl ?_
    have fx := wher_fit y7t (by omega)
    exact e_askL R wh y7 ⟨by omega, by omega⟩ fx (fit_xb fx) I 37 w x8 x10 x12 _ (by omega) (by omega) (by omega) J only.rf (Or.inl ⟨by omega, by omega⟩)
  · --
    refine s_i (pc1 := 11) (ls1 := [some (.ref 0), some (.int wh), none, none, none, none, none, none]) (st1 := []) rfl rfl fun x14 e15 => ?_
    have e15t : x14.toInt = -2 := by rw [e15]; rfl
    refine aw_ret (v := some (.int x14)) rfl rfl ?_
    exact ⟨J, x14, rfl, Or.inl ⟨by omega, by omega⟩⟩
theorem f_mbL {d : Nat} {w : am_W} {V : Nat → Int} (R : RMs w V) (k : Int32) (x : Int64) (hk : 0 ≤ k.toInt ∧ k.toInt < szV V) (fx : fitI V (V 7) (n64 x)) (I : ab_inv ab_TT ab_sets w) (J : ab_J ab_TT ab_sets ab_WR w w) : ∀ (m : Nat) (ms u : Int32) (o6 : Option Value), (51 - u.toInt).toNat < m → 0 ≤ u.toInt → u.toInt ≤ 51 → MX (fun v => cA V (n64 x) k.toInt v 64) u.toInt ms.toInt → aw none (d + 4) 164 (fun r w1 => w = w1 ∧ ∃ z : Int32, r = some (.int z) ∧ mxA V (n64 x) k.toInt z.toInt ∧ z.toInt ≤ 36) (6, [some (.ref 65), some (.int k), some (.long x), none, some (.int ms), some (.int u), o6], []) w := by
  have szm := szM_in I
  have hsz := R.sz
  intro m
  induction m with
  | zero => intro ms u o6 p; omega
  | succ m ih =>
    intro ms u o6 p1 p2 p3 M
    refine aw_step (f1 := (8, [some (.ref 65), some (.int k), some (.long x), none, some (.int ms), some (.int u), o6], [(.int u)])) (w1 := w) rfl rfl ?_
    refine s_i (pc1 := 10) (ls1 := [some (.ref 65), some (.int k), some (.long x), none, some (.int ms), some (.int u), o6]) (st1 := [(.int u)]) rfl rfl fun x1 e2 => ?_
    have e2t : x1.toInt = 50 := by rw [e2]; rfl
    refine s_ic 49 13 rfl rfl rfl (fun (h3 : x1.toInt < u.toInt) => ?_) (fun (h3 : ¬ (x1.toInt < u.toInt)) => ?_)
    · --
      refine aw_step (f1 := (51, [some (.ref 65), some (.int k), some (.long x), none, some (.int ms), some (.int u), o6], [(.int ms)])) (w1 := w) rfl rfl ?_
      refine aw_ret (v := some (.int ms)) rfl rfl ?_
      rw [show u.toInt = 51 by omega] at M
      refine ⟨rfl, ms, rfl, M, ?_⟩
      rcases M.2.2 with q | ⟨v, v1, v2, v3⟩
      · omega
      · have q := cA_top (V := V) (x := n64 x) (k := k.toInt) (v := v) (N := (szV V).toNat) (fit_xb fx) (64 - (szV V).toNat)
        rw [show (szV V).toNat + (64 - (szV V).toNat) = 64 by omega] at q
        have := cA_le (V := V) (x := n64 x) (k := k.toInt) (v := v) (szV V).toNat
        have v3 : ((cA V (n64 x) k.toInt v 64 : Nat) : Int) = ms.toInt := v3
        omega
    · --
      refine aw_step (f1 := (14, [some (.ref 65), some (.int k), some (.long x), none, some (.int ms), some (.int u), o6], [(.long x)])) (w1 := w) rfl rfl ?_
      refine aw_step (f1 := (15, [some (.ref 65), some (.int k), some (.long x), none, some (.int ms), some (.int u), o6], [(.ref 65), (.long x)])) (w1 := w) rfl rfl ?_
      refine aw_step (f1 := (17, [some (.ref 65), some (.int k), some (.long x), none, some (.int ms), some (.int u), o6], [(.int u), (.ref 65), (.long x)])) (w1 := w) rfl rfl ?_
      refine aw_step (f1 := (18, [some (.ref 65), some (.int k), some (.long x), none, some (.int ms), some (.int u), o6], [(.int k), (.int u), (.ref 65), (.long x)])) (w1 := w) rfl rfl ?_
      refine s_cv (z := 131) (p := 65) (as := [(.int u), (.int k)]) (st1 := [(.long x)]) J 21 rfl rfl rfl rfl rfl rfl rfl rfl (Nat.le_of_ble_eq_true rfl) (Nat.le_of_ble_eq_true rfl) (q_leadsBy u k ⟨by omega, by omega⟩ J.1) ?_
      rintro _ _ ⟨rfl, y4, rfl, y4a, y4t⟩
      refine ⟨rfl, ?_⟩
      show aw none _ 164 _ (21, [some (.ref 65), some (.int k), some (.long x), none, some (.int ms), some (.int u), o6], [(.long y4), (.long x)]) w
      refine s_l (pc1 := 22) (ls1 := [some (.ref 65), some (.int k), some (.long x), none, some (.int ms), some (.int u), o6]) (st1 := []) rfl rfl fun y5 e6 => ?_
      have e6 : y5 = x &&& y4 := e6
      refine s_cs (z := 109) (as := [(.long y5)]) (st1 := []) 25 rfl rfl rfl rfl rfl rfl (Nat.le_of_ble_eq_true rfl) (Nat.le_of_ble_eq_true rfl) (Nat.le_of_ble_eq_true rfl) (q_ones y5) ?_
      rintro _ _ ⟨rfl, x7, rfl, x7t⟩
      refine ⟨rfl, ?_⟩
      show aw none _ 164 _ (25, [some (.ref 65), some (.int k), some (.long x), none, some (.int ms), some (.int u), o6], [(.int x7)]) w
      have cc : x7.toInt = cA V (n64 x) k.toInt u.toInt 64 := by
        rw [x7t, cA_cnt (V := V) (x := n64 x) (k := k.toInt) (v := u.toInt) (fun j => ?_)]
        have ls := ldsM_V R (by omega) y4t j
        have l1 := bt_le (n64 x) j
        have l2 := bt_le (n64 y4) j
        rw [e6, n64_and, bt_and]
        constructor
        · intro q
          have a := ls.mp (by omega)
          exact ⟨by omega, by rw [sqM_c]; exact a.2⟩
        · intro q
          have a := ls.mpr ⟨((fx j).mp q.1).1, by rw [sqM_c]; exact q.2⟩
          omega
      refine aw_step (f1 := (27, [some (.ref 65), some (.int k), some (.long x), none, some (.int ms), some (.int u), some (.int x7)], [])) (w1 := w) rfl rfl ?_
      refine aw_step (f1 := (29, [some (.ref 65), some (.int k), some (.long x), none, some (.int ms), some (.int u), some (.int x7)], [(.int x7)])) (w1 := w) rfl rfl ?_
      refine aw_step (f1 := (31, [some (.ref 65), some (.int k), some (.long x), none, some (.int ms), some (.int u), some (.int x7)], [(.int ms), (.int x7)])) (w1 := w) rfl rfl ?_
      refine s_ic 39 34 rfl rfl rfl (fun (h8 : x7.toInt ≤ ms.toInt) => ?_) (fun (h8 : ¬ (x7.toInt ≤ ms.toInt)) => ?_)
      · --
        refine aw_step (f1 := (41, [some (.ref 65), some (.int k), some (.long x), none, some (.int ms), some (.int u), some (.int x7)], [(.int ms)])) (w1 := w) rfl rfl ?_
        refine aw_step (f1 := (43, [some (.ref 65), some (.int k), some (.long x), none, some (.int ms), some (.int u), some (.int x7)], [])) (w1 := w) rfl rfl ?_
        refine aw_step (f1 := (46, [some (.ref 65), some (.int k), some (.long x), none, some (.int ms), some (.int (u + Int32.ofInt 1)), some (.int x7)], [])) (w1 := w) rfl rfl ?_
        obtain ⟨x9, x9e⟩ : ∃ z, z = (u + Int32.ofInt 1) := ⟨_, rfl⟩
        have x9t : x9.toInt = u.toInt + (1) := by rw [x9e]; exact n_add (y := Int32.ofInt (1)) (by show _ ≤ _ + (1 : Int); omega) (by show _ + (1 : Int) ≤ _; omega)
        rw [← x9e]
        refine aw_step (f1 := (6, [some (.ref 65), some (.int k), some (.long x), none, some (.int ms), some (.int x9), some (.int x7)], [])) (w1 := w) rfl rfl ?_
        refine ih ms x9 _ (by omega) (by omega) (by omega) ?_
        rw [show x9.toInt = u.toInt + 1 by omega]
        exact M.st (by omega) (by rw [← cc]; omega)
      · --
        refine aw_step (f1 := (36, [some (.ref 65), some (.int k), some (.long x), none, some (.int ms), some (.int u), some (.int x7)], [(.int x7)])) (w1 := w) rfl rfl ?_
        refine aw_step (f1 := (41, [some (.ref 65), some (.int k), some (.long x), none, some (.int ms), some (.int u), some (.int x7)], [(.int x7)])) (w1 := w) rfl rfl ?_
        refine aw_step (f1 := (43, [some (.ref 65), some (.int k), some (.long x), none, some (.int x7), some (.int u), some (.int x7)], [])) (w1 := w) rfl rfl ?_
        refine aw_step (f1 := (46, [some (.ref 65), some (.int k), some (.long x), none, some (.int x7), some (.int (u + Int32.ofInt 1)), some (.int x7)], [])) (w1 := w) rfl rfl ?_
        obtain ⟨x10, x10e⟩ : ∃ z, z = (u + Int32.ofInt 1) := ⟨_, rfl⟩
        have x10t : x10.toInt = u.toInt + (1) := by rw [x10e]; exact n_add (y := Int32.ofInt (1)) (by show _ ≤ _ + (1 : Int); omega) (by show _ + (1 : Int) ≤ _; omega)
        rw [← x10e]
        refine aw_step (f1 := (6, [some (.ref 65), some (.int k), some (.long x), none, some (.int x7), some (.int x10), some (.int x7)], [])) (w1 := w) rfl rfl ?_
        refine ih x7 x10 _ (by omega) (by omega) (by omega) ?_
        rw [show x10.toInt = u.toInt + 1 by omega]
        exact M.st (by omega) (by rw [← cc]; omega)
theorem f_mostBy {d : Nat} {w : am_W} {V : Nat → Int} (R : RMs w V) (k : Int32) (x : Int64) (hk : 0 ≤ k.toInt ∧ k.toInt < szV V) (fx : fitI V (V 7) (n64 x)) (I : ab_inv ab_TT ab_sets w) : aw none (d + 4) 164 (fun r w1 => w = w1 ∧ ∃ z : Int32, r = some (.int z) ∧ mxA V (n64 x) k.toInt z.toInt ∧ z.toInt ≤ 36) (0, am_entry 164 [.ref 65, .int k, .long x], []) w := by
  have J : ab_J ab_TT ab_sets ab_WR w w := ⟨I, ab_fr.rf⟩
  show aw none (d + 4) 164 _ (0, [some (.ref 65), some (.int k), some (.long x), none, none, none, none], []) w
  refine s_i (pc1 := 1) (ls1 := [some (.ref 65), some (.int k), some (.long x), none, none, none, none]) (st1 := []) rfl rfl fun x1 e2 => ?_
  have e2t : x1.toInt = 0 := by rw [e2]; rfl
  refine aw_step (f1 := (3, [some (.ref 65), some (.int k), some (.long x), none, some (.int x1), none, none], [])) (w1 := w) rfl rfl ?_
  refine s_i (pc1 := 4) (ls1 := [some (.ref 65), some (.int k), some (.long x), none, some (.int x1), none, none]) (st1 := []) rfl rfl fun x3 e4 => ?_
  have e4t : x3.toInt = 0 := by rw [e4]; rfl
  refine aw_step (f1 := (6, [some (.ref 65), some (.int k), some (.long x), none, some (.int x1), some (.int x3), none], [])) (w1 := w) rfl rfl ?_
  exact f_mbL R k x hk fx I J 52 x1 x3 _ (by omega) (by omega) (by omega) (by rw [show x3.toInt = 0 by omega, show x1.toInt = 0 by omega]; exact MX.z)
theorem f_askL {d : Nat} {w : am_W} {V : Nat → Int} (R : RMs w V) (wh : Int32) (x : Int64) (hwh : 0 ≤ wh.toInt ∧ wh.toInt ≤ 1) (fx : fitI V (V 7) (n64 x)) (I : ab_inv ab_TT ab_sets w) (J : ab_J ab_TT ab_sets ab_WR w w) : ∀ (k : Nat) (a m c : Int32) (o7 : Option Value), (szV V - c.toInt).toNat < k → 0 ≤ c.toInt → c.toInt ≤ szV V → ((c.toInt = 0 ∧ 36 < m.toInt) ∨ BE V (n64 x) c.toInt a.toInt m.toInt) → aw none (d + 5) 165 (fun r w1 => ab_J ab_TT ab_sets ab_WR w w1 ∧ ∃ z : Int32, r = some (.int z) ∧ askP V wh.toInt z.toInt) (29, [some (.ref 65), some (.int wh), some (.long x), none, some (.int a), some (.int m), some (.int c), o7], []) w := by
  have szm := szM_in I
  have hsz := R.sz
  intro k
  induction k with
  | zero => intro a m c o7 p; omega
  | succ k ih =>
    intro a m c o7 p1 p2 p3 B
    refine aw_step (f1 := (31, [some (.ref 65), some (.int wh), some (.long x), none, some (.int a), some (.int m), some (.int c), o7], [(.int c)])) (w1 := w) rfl rfl ?_
    refine aw_step (f1 := (32, [some (.ref 65), some (.int wh), some (.long x), none, some (.int a), some (.int m), some (.int c), o7], [(.ref 65), (.int c)])) (w1 := w) rfl rfl ?_
    refine s_cv (z := 113) (p := 65) (as := []) (st1 := [(.int c)]) J 35 rfl rfl rfl rfl rfl rfl rfl rfl (Nat.le_of_ble_eq_true rfl) (Nat.le_of_ble_eq_true rfl) (q_cells J.1) ?_
    rintro _ _ ⟨rfl, x1, rfl, x1t⟩
    refine ⟨rfl, ?_⟩
    show aw none _ 165 _ (35, [some (.ref 65), some (.int wh), some (.long x), none, some (.int a), some (.int m), some (.int c), o7], [(.int x1), (.int c)]) w
    have x1s := szM_in J.1
    refine s_ic 85 38 rfl rfl rfl (fun (h2 : x1.toInt ≤ c.toInt) => ?_) (fun (h2 : ¬ (x1.toInt ≤ c.toInt)) => ?_)
    · --
      refine aw_step (f1 := (86, [some (.ref 65), some (.int wh), some (.long x), none, some (.int a), some (.int m), some (.int c), o7], [(.int wh)])) (w1 := w) rfl rfl ?_
      refine s_if 94 89 rfl rfl rfl (fun (h3 : ¬ wh.toInt = 0) => ?_) (fun (h3 : ¬ (¬ wh.toInt = 0)) => ?_)
      · --
        refine aw_step (f1 := (96, [some (.ref 65), some (.int wh), some (.long x), none, some (.int a), some (.int m), some (.int c), o7], [(.int m)])) (w1 := w) rfl rfl ?_
        refine aw_ret (v := some (.int m)) rfl rfl ?_
        have B2 : BE V (n64 x) (szV V) a.toInt m.toInt := by
          rw [← show c.toInt = szV V by omega]
          exact B.resolve_left (fun q => by omega)
        clear B
        exact ⟨J, m, rfl, Or.inr ⟨⟨by omega, by omega⟩, n64 x, _, _, fx, B2, by first | exact Or.inl ⟨by omega, by omega⟩ | exact Or.inr ⟨by omega, by omega⟩⟩⟩
      · --
        refine aw_step (f1 := (91, [some (.ref 65), some (.int wh), some (.long x), none, some (.int a), some (.int m), some (.int c), o7], [(.int a)])) (w1 := w) rfl rfl ?_
        refine aw_step (f1 := (96, [some (.ref 65), some (.int wh), some (.long x), none, some (.int a), some (.int m), some (.int c), o7], [(.int a)])) (w1 := w) rfl rfl ?_
        refine aw_ret (v := some (.int a)) rfl rfl ?_
        have B2 : BE V (n64 x) (szV V) a.toInt m.toInt := by
          rw [← show c.toInt = szV V by omega]
          exact B.resolve_left (fun q => by omega)
        clear B
        exact ⟨J, a, rfl, Or.inr ⟨⟨by omega, by omega⟩, n64 x, _, _, fx, B2, by first | exact Or.inl ⟨by omega, by omega⟩ | exact Or.inr ⟨by omega, by omega⟩⟩⟩
    · --
      refine aw_step (f1 := (39, [some (.ref 65), some (.int wh), some (.long x), none, some (.int a), some (.int m), some (.int c), o7], [(.ref 65)])) (w1 := w) rfl rfl ?_
      refine aw_step (f1 := (41, [some (.ref 65), some (.int wh), some (.long x), none, some (.int a), some (.int m), some (.int c), o7], [(.int c), (.ref 65)])) (w1 := w) rfl rfl ?_
      refine aw_step (f1 := (42, [some (.ref 65), some (.int wh), some (.long x), none, some (.int a), some (.int m), some (.int c), o7], [(.long x), (.int c), (.ref 65)])) (w1 := w) rfl rfl ?_
      refine s_cv (z := 164) (p := 65) (as := [(.int c), (.long x)]) (st1 := []) J 45 rfl rfl rfl rfl rfl rfl rfl rfl (Nat.le_of_ble_eq_true rfl) (Nat.le_of_ble_eq_true rfl) (f_mostBy R c x ⟨by omega, by omega⟩ fx J.1) ?_
      rintro _ _ ⟨rfl, x4, rfl, x4t, x4u⟩
      refine ⟨rfl, ?_⟩
      show aw none _ 165 _ (45, [some (.ref 65), some (.int wh), some (.long x), none, some (.int a), some (.int m), some (.int c), o7], [(.int x4)]) w
      refine aw_step (f1 := (47, [some (.ref 65), some (.int wh), some (.long x), none, some (.int a), some (.int m), some (.int c), some (.int x4)], [])) (w1 := w) rfl rfl ?_
      refine aw_step (f1 := (49, [some (.ref 65), some (.int wh), some (.long x), none, some (.int a), some (.int m), some (.int c), some (.int x4)], [(.int x4)])) (w1 := w) rfl rfl ?_
      refine aw_step (f1 := (51, [some (.ref 65), some (.int wh), some (.long x), none, some (.int a), some (.int m), some (.int c), some (.int x4)], [(.int m), (.int x4)])) (w1 := w) rfl rfl ?_
      refine s_ic 59 54 rfl rfl rfl (fun (h5 : m.toInt ≤ x4.toInt) => ?_) (fun (h5 : ¬ (m.toInt ≤ x4.toInt)) => ?_)
      · --
        --
        refine aw_step (f1 := (61, [some (.ref 65), some (.int wh), some (.long x), none, some (.int a), some (.int m), some (.int c), some (.int x4)], [(.int a)])) (w1 := w) rfl rfl ?_
        refine aw_step (f1 := (63, [some (.ref 65), some (.int wh), some (.long x), none, some (.int a), some (.int m), some (.int c), some (.int x4)], [])) (w1 := w) rfl rfl ?_
        refine aw_step (f1 := (65, [some (.ref 65), some (.int wh), some (.long x), none, some (.int a), some (.int m), some (.int c), some (.int x4)], [(.int x4)])) (w1 := w) rfl rfl ?_
        refine aw_step (f1 := (67, [some (.ref 65), some (.int wh), some (.long x), none, some (.int a), some (.int m), some (.int c), some (.int x4)], [(.int m), (.int x4)])) (w1 := w) rfl rfl ?_
        refine s_ic 75 70 rfl rfl rfl (fun (h6 : m.toInt ≤ x4.toInt) => ?_) (fun (h6 : ¬ (m.toInt ≤ x4.toInt)) => ?_)
        · --
          --
          refine aw_step (f1 := (77, [some (.ref 65), some (.int wh), some (.long x), none, some (.int a), some (.int m), some (.int c), some (.int x4)], [(.int m)])) (w1 := w) rfl rfl ?_
          refine aw_step (f1 := (79, [some (.ref 65), some (.int wh), some (.long x), none, some (.int a), some (.int m), some (.int c), some (.int x4)], [])) (w1 := w) rfl rfl ?_
          refine aw_step (f1 := (82, [some (.ref 65), some (.int wh), some (.long x), none, some (.int a), some (.int m), some (.int (c + Int32.ofInt 1)), some (.int x4)], [])) (w1 := w) rfl rfl ?_
          obtain ⟨x7, x7e⟩ : ∃ z, z = (c + Int32.ofInt 1) := ⟨_, rfl⟩
          have x7t : x7.toInt = c.toInt + (1) := by rw [x7e]; exact n_add (y := Int32.ofInt (1)) (by show _ ≤ _ + (1 : Int); omega) (by show _ + (1 : Int) ≤ _; omega)
          rw [← x7e]
          refine aw_step (f1 := (29, [some (.ref 65), some (.int wh), some (.long x), none, some (.int a), some (.int m), some (.int x7), some (.int x4)], [])) (w1 := w) rfl rfl ?_
          refine ih a m x7 _ (by omega) (by omega) (by omega) (Or.inr ?_)
          rw [show x7.toInt = c.toInt + 1 by omega]
          exact BE.st (V := V) B (by omega) x4t (by omega) (by omega)
        · --
          --
          refine aw_step (f1 := (72, [some (.ref 65), some (.int wh), some (.long x), none, some (.int a), some (.int m), some (.int c), some (.int x4)], [(.int x4)])) (w1 := w) rfl rfl ?_
          refine aw_step (f1 := (77, [some (.ref 65), some (.int wh), some (.long x), none, some (.int a), some (.int m), some (.int c), some (.int x4)], [(.int x4)])) (w1 := w) rfl rfl ?_
          refine aw_step (f1 := (79, [some (.ref 65), some (.int wh), some (.long x), none, some (.int a), some (.int x4), some (.int c), some (.int x4)], [])) (w1 := w) rfl rfl ?_
          refine aw_step (f1 := (82, [some (.ref 65), some (.int wh), some (.long x), none, some (.int a), some (.int x4), some (.int (c + Int32.ofInt 1)), some (.int x4)], [])) (w1 := w) rfl rfl ?_
          obtain ⟨x8, x8e⟩ : ∃ z, z = (c + Int32.ofInt 1) := ⟨_, rfl⟩
          have x8t : x8.toInt = c.toInt + (1) := by rw [x8e]; exact n_add (y := Int32.ofInt (1)) (by show _ ≤ _ + (1 : Int); omega) (by show _ + (1 : Int) ≤ _; omega)
          rw [← x8e]
          refine aw_step (f1 := (29, [some (.ref 65), some (.int wh), some (.long x), none, some (.int a), some (.int x4), some (.int x8), some (.int x4)], [])) (w1 := w) rfl rfl ?_
          exfalso; omega
      · --
        --
        refine aw_step (f1 := (56, [some (.ref 65), some (.int wh), some (.long x), none, some (.int a), some (.int m), some (.int c), some (.int x4)], [(.int c)])) (w1 := w) rfl rfl ?_
        refine aw_step (f1 := (61, [some (.ref 65), some (.int wh), some (.long x), none, some (.int a), some (.int m), some (.int c), some (.int x4)], [(.int c)])) (w1 := w) rfl rfl ?_
        refine aw_step (f1 := (63, [some (.ref 65), some (.int wh), some (.long x), none, some (.int c), some (.int m), some (.int c), some (.int x4)], [])) (w1 := w) rfl rfl ?_
        refine aw_step (f1 := (65, [some (.ref 65), some (.int wh), some (.long x), none, some (.int c), some (.int m), some (.int c), some (.int x4)], [(.int x4)])) (w1 := w) rfl rfl ?_
        refine aw_step (f1 := (67, [some (.ref 65), some (.int wh), some (.long x), none, some (.int c), some (.int m), some (.int c), some (.int x4)], [(.int m), (.int x4)])) (w1 := w) rfl rfl ?_
        refine s_ic 75 70 rfl rfl rfl (fun (h9 : m.toInt ≤ x4.toInt) => ?_) (fun (h9 : ¬ (m.toInt ≤ x4.toInt)) => ?_)
        · --
          --
          refine aw_step (f1 := (77, [some (.ref 65), some (.int wh), some (.long x), none, some (.int c), some (.int m), some (.int c), some (.int x4)], [(.int m)])) (w1 := w) rfl rfl ?_
          refine aw_step (f1 := (79, [some (.ref 65), some (.int wh), some (.long x), none, some (.int c), some (.int m), some (.int c), some (.int x4)], [])) (w1 := w) rfl rfl ?_
          refine aw_step (f1 := (82, [some (.ref 65), some (.int wh), some (.long x), none, some (.int c), some (.int m), some (.int (c + Int32.ofInt 1)), some (.int x4)], [])) (w1 := w) rfl rfl ?_
          obtain ⟨x10, x10e⟩ : ∃ z, z = (c + Int32.ofInt 1) := ⟨_, rfl⟩
          have x10t : x10.toInt = c.toInt + (1) := by rw [x10e]; exact n_add (y := Int32.ofInt (1)) (by show _ ≤ _ + (1 : Int); omega) (by show _ + (1 : Int) ≤ _; omega)
          rw [← x10e]
          refine aw_step (f1 := (29, [some (.ref 65), some (.int wh), some (.long x), none, some (.int c), some (.int m), some (.int x10), some (.int x4)], [])) (w1 := w) rfl rfl ?_
          exfalso; omega
        · --
          --
          refine aw_step (f1 := (72, [some (.ref 65), some (.int wh), some (.long x), none, some (.int c), some (.int m), some (.int c), some (.int x4)], [(.int x4)])) (w1 := w) rfl rfl ?_
          refine aw_step (f1 := (77, [some (.ref 65), some (.int wh), some (.long x), none, some (.int c), some (.int m), some (.int c), some (.int x4)], [(.int x4)])) (w1 := w) rfl rfl ?_
          refine aw_step (f1 := (79, [some (.ref 65), some (.int wh), some (.long x), none, some (.int c), some (.int x4), some (.int c), some (.int x4)], [])) (w1 := w) rfl rfl ?_
          refine aw_step (f1 := (82, [some (.ref 65), some (.int wh), some (.long x), none, some (.int c), some (.int x4), some (.int (c + Int32.ofInt 1)), some (.int x4)], [])) (w1 := w) rfl rfl ?_
          obtain ⟨x11, x11e⟩ : ∃ z, z = (c + Int32.ofInt 1) := ⟨_, rfl⟩
          have x11t : x11.toInt = c.toInt + (1) := by rw [x11e]; exact n_add (y := Int32.ofInt (1)) (by show _ ≤ _ + (1 : Int); omega) (by show _ + (1 : Int) ≤ _; omega)
          rw [← x11e]
          refine aw_step (f1 := (29, [some (.ref 65), some (.int wh), some (.long x), none, some (.int c), some (.int x4), some (.int x11), some (.int x4)], [])) (w1 := w) rfl rfl ?_
          refine ih c x4 x11 _ (by omega) (by omega) (by omega) (Or.inr ?_)
          rw [show x11.toInt = c.toInt + 1 by omega]
          exact BE.st (V := V) B (by omega) x4t (by omega) (by omega)
theorem f_ask {d : Nat} {w : am_W} {V : Nat → Int} (R : RMs w V) (mv : mkV V) (wh : Int32) (I : ab_inv ab_TT ab_sets w) : aw none (d + 5) 165 (fun r w1 => ab_J ab_TT ab_sets ab_WR w w1 ∧ ∃ z : Int32, r = some (.int z) ∧ askP V wh.toInt z.toInt) (0, am_entry 165 [.ref 65, .int wh], []) w := by
  have J : ab_J ab_TT ab_sets ab_WR w w := ⟨I, ab_fr.rf⟩
  have szm := szM_in I
  have hsz := R.sz
  show aw none (d + 5) 165 _ (0, [some (.ref 65), some (.int wh), none, none, none, none, none, none], []) w
  refine aw_step (f1 := (1, [some (.ref 65), some (.int wh), none, none, none, none, none, none], [(.int wh)])) (w1 := w) rfl rfl ?_
  refine s_l (pc1 := 2) (ls1 := [some (.ref 65), some (.int wh), none, none, none, none, none, none]) (st1 := []) rfl rfl fun y1 e2 => ?_
  have e2t : y1.toInt = wh.toInt := by rw [e2]; exact Int32.toInt_toInt64 wh
  refine s_l (pc1 := 3) (ls1 := [some (.ref 65), some (.int wh), none, none, none, none, none, none]) (st1 := [(.long y1)]) rfl rfl fun y3 e4 => ?_
  have e4t : y3.toInt = 0 := by rw [e4]; rfl
  refine s_l (pc1 := 4) (ls1 := [some (.ref 65), some (.int wh), none, none, none, none, none, none]) (st1 := [(.long y3), (.long y1)]) rfl rfl fun y5 e6 => ?_
  have e6t : y5.toInt = 1 := by rw [e6]; rfl
  refine s_cs (z := 108) (as := [(.long y1), (.long y3), (.long y5)]) (st1 := []) 7 rfl rfl rfl rfl rfl rfl (Nat.le_of_ble_eq_true rfl) (Nat.le_of_ble_eq_true rfl) (Nat.le_of_ble_eq_true rfl) (q_in2 y1 y3 y5) ?_
  rintro _ _ ⟨rfl, x7, rfl, x7t⟩
  refine ⟨rfl, ?_⟩
  show aw none _ 165 _ (7, [some (.ref 65), some (.int wh), none, none, none, none, none, none], [(.int x7)]) w
  refine s_if 13 10 rfl rfl rfl (fun (h8 : ¬ x7.toInt = 0) => ?_) (fun (h8 : ¬ (¬ x7.toInt = 0)) => ?_)
  · --
    refine aw_step (f1 := (14, [some (.ref 65), some (.int wh), none, none, none, none, none, none], [(.ref 65)])) (w1 := w) rfl rfl ?_
    refine s_cv (z := 163) (p := 65) (as := []) (st1 := []) J 17 rfl rfl rfl rfl rfl rfl rfl rfl (Nat.le_of_ble_eq_true rfl) (Nat.le_of_ble_eq_true rfl) (f_where R mv J.1) ?_
    rintro _ _ ⟨rfl, y9, rfl, y9t⟩
    refine ⟨rfl, ?_⟩
    show aw none _ 165 _ (17, [some (.ref 65), some (.int wh), none, none, none, none, none, none], [(.long y9)]) w
    refine aw_step (f1 := (18, [some (.ref 65), some (.int wh), some (.long y9), none, none, none, none, none], [])) (w1 := w) rfl rfl ?_
    refine s_i (pc1 := 20) (ls1 := [some (.ref 65), some (.int wh), some (.long y9), none, none, none, none, none]) (st1 := []) rfl rfl fun x10 e11 => ?_
    have e11t : x10.toInt = -6 := by rw [e11]; rfl
    refine aw_step (f1 := (22, [some (.ref 65), some (.int wh), some (.long y9), none, some (.int x10), none, none, none], [])) (w1 := w) rfl rfl ?_
    refine s_i (pc1 := 24) (ls1 := [some (.ref 65), some (.int wh), some (.long y9), none, some (.int x10), none, none, none]) (st1 := []) rfl rfl fun x12 e13 => ?_
    have e13t : x12.toInt = 100000 := by rw [e13]; rfl
    refine aw_step (f1 := (26, [some (.ref 65), some (.int wh), some (.long y9), none, some (.int x10), some (.int x12), none, none], [])) (w1 := w) rfl rfl ?_
    refine s_i (pc1 := 27) (ls1 := [some (.ref 65), some (.int wh), some (.long y9), none, some (.int x10), some (.int x12), none, none]) (st1 := []) rfl rfl fun x14 e15 => ?_
    have e15t : x14.toInt = 0 := by rw [e15]; rfl
    refine aw_step (f1 := (29, [some (.ref 65), some (.int wh), some (.long y9), none, some (.int x10), some (.int x12), some (.int x14), none], [])) (w1 := w) rfl rfl ?_
    have fx := wher_fit y9t (by omega)
    exact f_askL R wh y9 ⟨by omega, by omega⟩ fx I J 37 x10 x12 x14 _ (by omega) (by omega) (by omega) (Or.inl ⟨by omega, by omega⟩)
  · --
    refine s_i (pc1 := 12) (ls1 := [some (.ref 65), some (.int wh), none, none, none, none, none, none]) (st1 := []) rfl rfl fun x16 e17 => ?_
    have e17t : x16.toInt = -2 := by rw [e17]; rfl
    refine aw_ret (v := some (.int x16)) rfl rfl ?_
    exact ⟨J, x16, rfl, Or.inl ⟨by omega, by omega⟩⟩
