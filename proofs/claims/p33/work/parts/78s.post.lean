/-! ===== posts of the model ===== -/
theorem t_s17 : ∀ c, c < 17 → ((1 : Int32) <<< (Int32.ofNat c &&& 31)).toInt = ((2 ^ c : Nat) : Int) := by decide +kernel
/-- the best so far -/
noncomputable def bpI (V : Nat → Int) (L : Int) (X : Nat) (be : Int) : Prop := (be = -6 ∧ ∀ T, T < X → ¬ slP V L T) ∨ ((0 ≤ be ∧ be.toNat < X) ∧ slP V L be.toNat ∧ ∀ T, T < X → slP V L T → cnt be.toNat 64 < cnt T 64 ∨ (cnt be.toNat 64 = cnt T 64 ∧ be.toNat ≤ T))
theorem bpI.b {V : Nat → Int} {L : Int} {X : Nat} {be : Int} (h : bpI V L X be) : be = -6 ∨ (0 ≤ be ∧ be.toNat < X) := by
  rcases h with h | h
  · exact Or.inl h.1
  · exact Or.inr h.1
theorem bpI.no {V : Nat → Int} {L : Int} {X : Nat} {be : Int} (h : bpI V L X be) (q : slP V L X → be ≠ -6 ∧ cnt be.toNat 64 ≤ cnt X 64) : bpI V L (X + 1) be := by
  rcases h with ⟨h1, h2⟩ | ⟨h1, h2, h3⟩
  · refine Or.inl ⟨h1, fun T hT s => ?_⟩
    by_cases e : T = X
    · subst e; exact (q s).1 h1
    · exact h2 T (by omega) s
  · refine Or.inr ⟨by omega, h2, fun T hT s => ?_⟩
    by_cases e : T = X
    · subst e
      have := (q s).2
      omega
    · exact h3 T (by omega) s
theorem bpI.ye {V : Nat → Int} {L : Int} {X : Nat} {be be' : Int} (h : bpI V L X be) (s : slP V L X) (q : be = -6 ∨ cnt X 64 < cnt be.toNat 64) (e : be' = X) : bpI V L (X + 1) be' := by
  subst e
  refine Or.inr ⟨by omega, s, fun T hT t => ?_⟩
  rw [show ((X : Nat) : Int).toNat = X by omega]
  by_cases u : T = X
  · subst u; exact Or.inr ⟨rfl, Nat.le_refl _⟩
  · rcases h with ⟨h1, h2⟩ | ⟨h1, h2, h3⟩
    · exact absurd t (h2 T (by omega))
    · have a := h3 T (by omega) t
      omega
/-- what a set and its leads hold, so far -/
noncomputable def hoI (s : Nat) (l : Nat → Nat) (i : Int) (h : Nat) : Prop := ∀ j, bt h j = 1 ↔ bt s j = 1 ∨ ∃ q : Nat, (q : Int) < i ∧ bt s q = 1 ∧ bt (l q) j = 1
theorem hoI.st {s h h' v : Nat} {l : Nat → Nat} {i : Int} (a : hoI s l i h) (h0 : 0 ≤ i) (e : h' = h ||| v) (q : (bt s i.toNat = 1 ∧ v = l i.toNat) ∨ (bt s i.toNat ≠ 1 ∧ v = 0)) : hoI s l (i + 1) h' := fun j => by
  have aj := a j
  have l1 := bt_le h j
  have l2 := bt_le v j
  rw [e, bt_or]
  constructor
  · intro u
    by_cases z : bt h j = 1
    · rcases aj.mp z with y | ⟨p, p1, p2⟩
      · exact Or.inl y
      · exact Or.inr ⟨p, by omega, p2⟩
    · rcases q with ⟨q1, q2⟩ | ⟨q1, q2⟩
      · exact Or.inr ⟨i.toNat, by omega, q1, by rw [← q2]; omega⟩
      · rw [q2, bt_z] at u; omega
  · rintro (u | ⟨p, p1, p2, p3⟩)
    · have := aj.mpr (Or.inl u); omega
    · by_cases z : p = i.toNat
      · rcases q with ⟨q1, q2⟩ | ⟨q1, q2⟩
        · rw [z, ← q2] at p3; omega
        · exact absurd (by rw [← z]; exact p2) q1
      · have := aj.mpr (Or.inr ⟨p, by omega, p2, p3⟩); omega
theorem n64_i {y : Int64} {x : Int32} (h : y.toInt = x.toInt) (h0 : 0 ≤ x.toInt) : n64 y = x.toInt.toNat := by
  have := n64_of (x := y) (by omega)
  omega
theorem f_poH {d : Nat} {Q : Option Value → am_W → Prop} {w00 w : am_W} (J : ab_J ab_TT ab_sets ab_WR w00 w) (b wh : Int32) (al : Int64) (be se fw : Int32) (hse : 0 ≤ se.toInt) (K : ∀ (he : Int64) (c : Int32), hoI se.toInt.toNat (rL w 74) (szM w) (n64 he) → aw none (d + 1) 177 Q (158, [some (.ref 65), some (.int b), some (.int wh), some (.long al), none, some (.int be), some (.int se), some (.int fw), some (.long he), none, some (.int c)], []) w) : ∀ (m : Nat) (he : Int64) (c : Int32), (szM w - c.toInt).toNat < m → 0 ≤ c.toInt → c.toInt ≤ szM w → hoI se.toInt.toNat (rL w 74) c.toInt (n64 he) → aw none (d + 1) 177 Q (116, [some (.ref 65), some (.int b), some (.int wh), some (.long al), none, some (.int be), some (.int se), some (.int fw), some (.long he), none, some (.int c)], []) w := by
  have szm := szM_in J.1
  intro m
  induction m with
  | zero => intro he c p; omega
  | succ m ih =>
    intro he c p1 p2 p3 F
    refine aw_step (f1 := (118, [some (.ref 65), some (.int b), some (.int wh), some (.long al), none, some (.int be), some (.int se), some (.int fw), some (.long he), none, some (.int c)], [(.int c)])) (w1 := w) rfl rfl ?_
    refine aw_step (f1 := (119, [some (.ref 65), some (.int b), some (.int wh), some (.long al), none, some (.int be), some (.int se), some (.int fw), some (.long he), none, some (.int c)], [(.ref 65), (.int c)])) (w1 := w) rfl rfl ?_
    refine s_cv (z := 113) (p := 65) (as := []) (st1 := [(.int c)]) J 122 rfl rfl rfl rfl rfl rfl rfl rfl (Nat.le_of_ble_eq_true rfl) (Nat.le_of_ble_eq_true rfl) (q_cells J.1) ?_
    rintro _ _ ⟨rfl, x1, rfl, x1t⟩
    refine ⟨rfl, ?_⟩
    show aw none _ 177 _ (122, [some (.ref 65), some (.int b), some (.int wh), some (.long al), none, some (.int be), some (.int se), some (.int fw), some (.long he), none, some (.int c)], [(.int x1), (.int c)]) w
    have x1s := szM_in J.1
    refine s_ic 158 125 rfl rfl rfl (fun (h2 : x1.toInt ≤ c.toInt) => ?_) (fun (h2 : ¬ (x1.toInt ≤ c.toInt)) => ?_)
    · --
      exact K he c (by rw [← show c.toInt = szM w by omega]; exact F)
    · --
      refine aw_step (f1 := (127, [some (.ref 65), some (.int b), some (.int wh), some (.long al), none, some (.int be), some (.int se), some (.int fw), some (.long he), none, some (.int c)], [(.long he)])) (w1 := w) rfl rfl ?_
      refine aw_step (f1 := (129, [some (.ref 65), some (.int b), some (.int wh), some (.long al), none, some (.int be), some (.int se), some (.int fw), some (.long he), none, some (.int c)], [(.int se), (.long he)])) (w1 := w) rfl rfl ?_
      refine s_l (pc1 := 130) (ls1 := [some (.ref 65), some (.int b), some (.int wh), some (.long al), none, some (.int be), some (.int se), some (.int fw), some (.long he), none, some (.int c)]) (st1 := [(.long he)]) rfl rfl fun y3 e4 => ?_
      have e4t : y3.toInt = se.toInt := by rw [e4]; exact Int32.toInt_toInt64 se
      have nse : n64 y3 = se.toInt.toNat := n64_i e4t (by omega)
      refine aw_step (f1 := (132, [some (.ref 65), some (.int b), some (.int wh), some (.long al), none, some (.int be), some (.int se), some (.int fw), some (.long he), none, some (.int c)], [(.int c), (.long y3), (.long he)])) (w1 := w) rfl rfl ?_
      refine s_cs (z := 110) (as := [(.long y3), (.int c)]) (st1 := [(.long he)]) 135 rfl rfl rfl rfl rfl rfl (Nat.le_of_ble_eq_true rfl) (Nat.le_of_ble_eq_true rfl) (Nat.le_of_ble_eq_true rfl) (q_has y3 c (by omega) (by omega)) ?_
      rintro _ _ ⟨rfl, x5, rfl, x5t⟩
      refine ⟨rfl, ?_⟩
      show aw none _ 177 _ (135, [some (.ref 65), some (.int b), some (.int wh), some (.long al), none, some (.int be), some (.int se), some (.int fw), some (.long he), none, some (.int c)], [(.int x5), (.long he)]) w
      have x5l := bt_le (n64 y3) c.toInt.toNat
      refine s_if 148 138 rfl rfl rfl (fun (h6 : x5.toInt = 0) => ?_) (fun (h6 : ¬ (x5.toInt = 0)) => ?_)
      · --
        --
        refine s_l (pc1 := 149) (ls1 := [some (.ref 65), some (.int b), some (.int wh), some (.long al), none, some (.int be), some (.int se), some (.int fw), some (.long he), none, some (.int c)]) (st1 := [(.long he)]) rfl rfl fun y7 e8 => ?_
        have e8t : y7.toInt = 0 := by rw [e8]; rfl
        --
        refine s_l (pc1 := 150) (ls1 := [some (.ref 65), some (.int b), some (.int wh), some (.long al), none, some (.int be), some (.int se), some (.int fw), some (.long he), none, some (.int c)]) (st1 := []) rfl rfl fun y9 e10 => ?_
        have e10 : y9 = he ||| y7 := e10
        refine aw_step (f1 := (152, [some (.ref 65), some (.int b), some (.int wh), some (.long al), none, some (.int be), some (.int se), some (.int fw), some (.long y9), none, some (.int c)], [])) (w1 := w) rfl rfl ?_
        refine aw_step (f1 := (155, [some (.ref 65), some (.int b), some (.int wh), some (.long al), none, some (.int be), some (.int se), some (.int fw), some (.long y9), none, some (.int (c + Int32.ofInt 1))], [])) (w1 := w) rfl rfl ?_
        obtain ⟨x11, x11e⟩ : ∃ z, z = (c + Int32.ofInt 1) := ⟨_, rfl⟩
        have x11t : x11.toInt = c.toInt + (1) := by rw [x11e]; exact n_add (y := Int32.ofInt (1)) (by show _ ≤ _ + (1 : Int); omega) (by show _ + (1 : Int) ≤ _; omega)
        rw [← x11e]
        refine aw_step (f1 := (116, [some (.ref 65), some (.int b), some (.int wh), some (.long al), none, some (.int be), some (.int se), some (.int fw), some (.long y9), none, some (.int x11)], [])) (w1 := w) rfl rfl ?_
        exact ih y9 x11 (by omega) (by omega) (by omega) (by rw [show x11.toInt = c.toInt + 1 by omega]; exact F.st (by omega) (by rw [e10, n64_or]) (Or.inr ⟨by rw [← nse]; omega, n64_z.mp e8t⟩))
      · --
        --
        refine aw_step (f1 := (139, [some (.ref 65), some (.int b), some (.int wh), some (.long al), none, some (.int be), some (.int se), some (.int fw), some (.long he), none, some (.int c)], [(.ref 65), (.long he)])) (w1 := w) rfl rfl ?_
        refine s_gr 74 J 142 rfl rfl rfl rfl rfl rfl ?_
        refine aw_step (f1 := (144, [some (.ref 65), some (.int b), some (.int wh), some (.long al), none, some (.int be), some (.int se), some (.int fw), some (.long he), none, some (.int c)], [(.int c), (.ref 74), (.long he)])) (w1 := w) rfl rfl ?_
        refine s_la J 145 rfl rfl rfl (by omega) (by omega) fun y12 y12a y12b y12f => ?_
        have hvl : n64 y12 = rL w 74 c.toInt.toNat := (rL_of y12f).symm
        refine aw_step (f1 := (149, [some (.ref 65), some (.int b), some (.int wh), some (.long al), none, some (.int be), some (.int se), some (.int fw), some (.long he), none, some (.int c)], [(.long y12), (.long he)])) (w1 := w) rfl rfl ?_
        --
        refine s_l (pc1 := 150) (ls1 := [some (.ref 65), some (.int b), some (.int wh), some (.long al), none, some (.int be), some (.int se), some (.int fw), some (.long he), none, some (.int c)]) (st1 := []) rfl rfl fun y13 e14 => ?_
        have e14 : y13 = he ||| y12 := e14
        refine aw_step (f1 := (152, [some (.ref 65), some (.int b), some (.int wh), some (.long al), none, some (.int be), some (.int se), some (.int fw), some (.long y13), none, some (.int c)], [])) (w1 := w) rfl rfl ?_
        refine aw_step (f1 := (155, [some (.ref 65), some (.int b), some (.int wh), some (.long al), none, some (.int be), some (.int se), some (.int fw), some (.long y13), none, some (.int (c + Int32.ofInt 1))], [])) (w1 := w) rfl rfl ?_
        obtain ⟨x15, x15e⟩ : ∃ z, z = (c + Int32.ofInt 1) := ⟨_, rfl⟩
        have x15t : x15.toInt = c.toInt + (1) := by rw [x15e]; exact n_add (y := Int32.ofInt (1)) (by show _ ≤ _ + (1 : Int); omega) (by show _ + (1 : Int) ≤ _; omega)
        rw [← x15e]
        refine aw_step (f1 := (116, [some (.ref 65), some (.int b), some (.int wh), some (.long al), none, some (.int be), some (.int se), some (.int fw), some (.long y13), none, some (.int x15)], [])) (w1 := w) rfl rfl ?_
        exact ih y13 x15 (by omega) (by omega) (by omega) (by rw [show x15.toInt = c.toInt + 1 by omega]; exact F.st (by omega) (by rw [e14, n64_or]) (Or.inl ⟨by rw [← nse]; omega, hvl⟩))
theorem f_poO {d : Nat} {w00 w : am_W} {V : Nat → Int} {L : Int} (J : ab_J ab_TT ab_sets ab_WR w00 w) (hsz : szM w = szV V) (hz : 1 ≤ szV V ∧ szV V ≤ 16) (lr : lrV V L (rL w 74)) (b wh : Int32) (hwh : 0 ≤ wh.toInt ∧ wh.toInt ≤ 1) (al : Int64) (hal : ∀ j, bt (n64 al) j = 1 ↔ ldN V j) : ∀ (m : Nat) (be se : Int32) (o7 o8 o9 o10 : Option Value), 65536 - se.toInt.toNat < m → 1 ≤ se.toInt → se.toInt.toNat ≤ 2 ^ (szV V).toNat → (be.toInt = -6 ∨ (0 ≤ be.toInt ∧ be.toInt < se.toInt)) → bpI V L se.toInt.toNat be.toInt → aw none (d + 3) 177 (fun r w1 => ab_J ab_TT ab_sets ab_WR w00 w1 ∧ ∃ z : Int32, r = some (.int z) ∧ ∃ T, bsP V L T ∧ ((wh.toInt = 0 ∧ z.toInt = cnt T 64) ∨ (wh.toInt = 1 ∧ z.toInt = T))) (51, [some (.ref 65), some (.int b), some (.int wh), some (.long al), none, some (.int be), some (.int se), o7, o8, o9, o10], []) w := by
  have szm := szM_in J.1
  have pmx : (2 : Nat) ^ (szV V).toNat ≤ 2 ^ 16 := Nat.pow_le_pow_right (by decide) (by omega)
  have p16 : (2 : Nat) ^ 16 = 65536 := rfl
  intro m
  induction m with
  | zero => intro be se o7 o8 o9 o10 p; omega
  | succ m ih =>
    intro be se o7 o8 o9 o10 p1 p2 p3 p4 B
    refine aw_step (f1 := (53, [some (.ref 65), some (.int b), some (.int wh), some (.long al), none, some (.int be), some (.int se), o7, o8, o9, o10], [(.int se)])) (w1 := w) rfl rfl ?_
    refine s_i (pc1 := 54) (ls1 := [some (.ref 65), some (.int b), some (.int wh), some (.long al), none, some (.int be), some (.int se), o7, o8, o9, o10]) (st1 := [(.int se)]) rfl rfl fun x1 e2 => ?_
    have e2t : x1.toInt = 1 := by rw [e2]; rfl
    --
    refine aw_step (f1 := (55, [some (.ref 65), some (.int b), some (.int wh), some (.long al), none, some (.int be), some (.int se), o7, o8, o9, o10], [(.ref 65), (.int x1), (.int se)])) (w1 := w) rfl rfl ?_
    refine s_cv (z := 113) (p := 65) (as := []) (st1 := [(.int x1), (.int se)]) J 58 rfl rfl rfl rfl rfl rfl rfl rfl (Nat.le_of_ble_eq_true rfl) (Nat.le_of_ble_eq_true rfl) (q_cells J.1) ?_
    rintro _ _ ⟨rfl, x3, rfl, x3t⟩
    refine ⟨rfl, ?_⟩
    show aw none _ 177 _ (58, [some (.ref 65), some (.int b), some (.int wh), some (.long al), none, some (.int be), some (.int se), o7, o8, o9, o10], [(.int x3), (.int x1), (.int se)]) w
    have x3s := szM_in J.1
    --
    refine s_i (pc1 := 59) (ls1 := [some (.ref 65), some (.int b), some (.int wh), some (.long al), none, some (.int be), some (.int se), o7, o8, o9, o10]) (st1 := [(.int se)]) rfl rfl fun x4 e5 => ?_
    have e5 : x4 = x1 <<< (x3 &&& 31) := e5
    have pz : x4.toInt = ((2 ^ (szV V).toNat : Nat) : Int) := by
      have q := t_s17 (szV V).toNat (by omega)
      rw [← show x3 = Int32.ofNat (szV V).toNat from by rw [← show x3.toInt.toNat = (szV V).toNat by omega]; exact i32_nat (by omega)] at q
      rw [← q, e5, show x1 = 1 from n_1 (by omega)]
    refine s_ic 180 62 rfl rfl rfl (fun (h6 : x4.toInt ≤ se.toInt) => ?_) (fun (h6 : ¬ (x4.toInt ≤ se.toInt)) => ?_)
    · --
      refine aw_step (f1 := (181, [some (.ref 65), some (.int b), some (.int wh), some (.long al), none, some (.int be), some (.int se), o7, o8, o9, o10], [(.int wh)])) (w1 := w) rfl rfl ?_
      refine s_if 193 184 rfl rfl rfl (fun (h7 : ¬ wh.toInt = 0) => ?_) (fun (h7 : ¬ (¬ wh.toInt = 0)) => ?_)
      · --
        refine aw_step (f1 := (195, [some (.ref 65), some (.int b), some (.int wh), some (.long al), none, some (.int be), some (.int se), o7, o8, o9, o10], [(.int be)])) (w1 := w) rfl rfl ?_
        refine aw_ret (v := some (.int be)) rfl rfl ?_
        have sD : slP V L (n64 al) := ⟨fun c hc => (hal c).mp hc, fun j hj => ⟨j, (hal j).mpr hj, Or.inl rfl⟩⟩
        have up : ∀ T, slP V L T → T < 2 ^ (szV V).toNat := fun T t => bt_lt fun j hj => by have := (t.1 j hj).1; omega
        have sX : se.toInt.toNat = 2 ^ (szV V).toNat := by omega
        rw [sX] at B
        rcases B with ⟨q1, q2⟩ | ⟨q1, q2, q3⟩
        · exact absurd sD (q2 _ (up _ sD))
        · refine ⟨J, be, rfl, be.toInt.toNat, ⟨q2, fun U hU => q3 U (up U hU) hU⟩, ?_⟩
          first
            | exact Or.inr ⟨by omega, by omega⟩
            | exact Or.inl ⟨by omega, by rw [bet, n64_i zzt (by omega)]⟩
      · --
        refine aw_step (f1 := (186, [some (.ref 65), some (.int b), some (.int wh), some (.long al), none, some (.int be), some (.int se), o7, o8, o9, o10], [(.int be)])) (w1 := w) rfl rfl ?_
        refine s_l (pc1 := 187) (ls1 := [some (.ref 65), some (.int b), some (.int wh), some (.long al), none, some (.int be), some (.int se), o7, o8, o9, o10]) (st1 := []) rfl rfl fun y8 e9 => ?_
        have e9t : y8.toInt = be.toInt := by rw [e9]; exact Int32.toInt_toInt64 be
        --
        refine s_cs (z := 109) (as := [(.long y8)]) (st1 := []) 190 rfl rfl rfl rfl rfl rfl (Nat.le_of_ble_eq_true rfl) (Nat.le_of_ble_eq_true rfl) (Nat.le_of_ble_eq_true rfl) (q_ones y8) ?_
        rintro _ _ ⟨rfl, x10, rfl, x10t⟩
        refine ⟨rfl, ?_⟩
        show aw none _ 177 _ (190, [some (.ref 65), some (.int b), some (.int wh), some (.long al), none, some (.int be), some (.int se), o7, o8, o9, o10], [(.int x10)]) w
        have x10c := cnt_le (n64 y8) 64
        refine aw_step (f1 := (195, [some (.ref 65), some (.int b), some (.int wh), some (.long al), none, some (.int be), some (.int se), o7, o8, o9, o10], [(.int x10)])) (w1 := w) rfl rfl ?_
        refine aw_ret (v := some (.int x10)) rfl rfl ?_
        have sD : slP V L (n64 al) := ⟨fun c hc => (hal c).mp hc, fun j hj => ⟨j, (hal j).mpr hj, Or.inl rfl⟩⟩
        have up : ∀ T, slP V L T → T < 2 ^ (szV V).toNat := fun T t => bt_lt fun j hj => by have := (t.1 j hj).1; omega
        have sX : se.toInt.toNat = 2 ^ (szV V).toNat := by omega
        rw [sX] at B
        rcases B with ⟨q1, q2⟩ | ⟨q1, q2, q3⟩
        · exact absurd sD (q2 _ (up _ sD))
        · refine ⟨J, x10, rfl, be.toInt.toNat, ⟨q2, fun U hU => q3 U (up U hU) hU⟩, ?_⟩
          first
            | exact Or.inr ⟨by omega, by omega⟩
            | exact Or.inl ⟨by omega, by rw [x10t, n64_i e9t (by omega)]⟩
    · --
      refine aw_step (f1 := (64, [some (.ref 65), some (.int b), some (.int wh), some (.long al), none, some (.int be), some (.int se), o7, o8, o9, o10], [(.int be)])) (w1 := w) rfl rfl ?_
      refine s_if 82 67 rfl rfl rfl (fun (h11 : be.toInt < 0) => ?_) (fun (h11 : ¬ (be.toInt < 0)) => ?_)
      · --
        refine s_i (pc1 := 83) (ls1 := [some (.ref 65), some (.int b), some (.int wh), some (.long al), none, some (.int be), some (.int se), o7, o8, o9, o10]) (st1 := []) rfl rfl fun x12 e13 => ?_
        have e13t : x12.toInt = 1 := by rw [e13]; rfl
        refine aw_step (f1 := (87, [some (.ref 65), some (.int b), some (.int wh), some (.long al), none, some (.int be), some (.int se), o7, o8, o9, o10], [(.int x12)])) (w1 := w) rfl rfl ?_
        refine aw_step (f1 := (89, [some (.ref 65), some (.int b), some (.int wh), some (.long al), none, some (.int be), some (.int se), some (.int x12), o8, o9, o10], [])) (w1 := w) rfl rfl ?_
        refine aw_step (f1 := (91, [some (.ref 65), some (.int b), some (.int wh), some (.long al), none, some (.int be), some (.int se), some (.int x12), o8, o9, o10], [(.int se)])) (w1 := w) rfl rfl ?_
        refine s_l (pc1 := 92) (ls1 := [some (.ref 65), some (.int b), some (.int wh), some (.long al), none, some (.int be), some (.int se), some (.int x12), o8, o9, o10]) (st1 := []) rfl rfl fun y14 e15 => ?_
        have e15t : y14.toInt = se.toInt := by rw [e15]; exact Int32.toInt_toInt64 se
        have nC : n64 y14 = se.toInt.toNat := n64_i e15t (by omega)
        refine aw_step (f1 := (93, [some (.ref 65), some (.int b), some (.int wh), some (.long al), none, some (.int be), some (.int se), some (.int x12), o8, o9, o10], [(.long al), (.long y14)])) (w1 := w) rfl rfl ?_
        refine s_l (pc1 := 96) (ls1 := [some (.ref 65), some (.int b), some (.int wh), some (.long al), none, some (.int be), some (.int se), some (.int x12), o8, o9, o10]) (st1 := [(.long al), (.long y14)]) rfl rfl fun y16 e17 => ?_
        have e17t : y16.toInt = -1 := by rw [e17]; rfl
        --
        refine s_l (pc1 := 97) (ls1 := [some (.ref 65), some (.int b), some (.int wh), some (.long al), none, some (.int be), some (.int se), some (.int x12), o8, o9, o10]) (st1 := [(.long y14)]) rfl rfl fun y18 e19 => ?_
        have e19 : y18 = al ^^^ y16 := e19
        --
        refine s_l (pc1 := 98) (ls1 := [some (.ref 65), some (.int b), some (.int wh), some (.long al), none, some (.int be), some (.int se), some (.int x12), o8, o9, o10]) (st1 := []) rfl rfl fun y20 e21 => ?_
        have e21 : y20 = y14 &&& y18 := e21
        have si : y20.toInt = 0 ↔ ∀ q, bt se.toInt.toNat q = 1 → ldN V q := by
          have q := sub_iff (y := y20) (x := y14) (d := al) (m := y16) e17t (by rw [e21, e19])
          rw [nC] at q
          exact q.trans ⟨fun h j hj => (hal j).mp (h j hj), fun h j hj => (hal j).mpr (h j hj)⟩
        refine s_l (pc1 := 99) (ls1 := [some (.ref 65), some (.int b), some (.int wh), some (.long al), none, some (.int be), some (.int se), some (.int x12), o8, o9, o10]) (st1 := [(.long y20)]) rfl rfl fun y22 e23 => ?_
        have e23t : y22.toInt = 0 := by rw [e23]; rfl
        refine s_lc 174 103 100 rfl rfl rfl rfl rfl (fun (h24 : ¬ y20.toInt = y22.toInt) => ?_) (fun (h24 : ¬ (¬ y20.toInt = y22.toInt)) => ?_)
        · --
          refine aw_step (f1 := (177, [some (.ref 65), some (.int b), some (.int wh), some (.long al), none, some (.int be), some (.int (se + Int32.ofInt 1)), some (.int x12), o8, o9, o10], [])) (w1 := w) rfl rfl ?_
          obtain ⟨x25, x25e⟩ : ∃ z, z = (se + Int32.ofInt 1) := ⟨_, rfl⟩
          have x25t : x25.toInt = se.toInt + (1) := by rw [x25e]; exact n_add (y := Int32.ofInt (1)) (by show _ ≤ _ + (1 : Int); omega) (by show _ + (1 : Int) ≤ _; omega)
          rw [← x25e]
          refine aw_step (f1 := (51, [some (.ref 65), some (.int b), some (.int wh), some (.long al), none, some (.int be), some (.int x25), some (.int x12), o8, o9, o10], [])) (w1 := w) rfl rfl ?_
          refine ih be x25 _ _ _ _ (by omega) (by omega) (by omega) (by omega) ?_
          rw [show x25.toInt.toNat = se.toInt.toNat + 1 by omega]
          refine B.no fun s => ?_
          have s0 := si.mpr s.1
          refine ⟨by omega, by omega⟩
        · --
          refine aw_step (f1 := (105, [some (.ref 65), some (.int b), some (.int wh), some (.long al), none, some (.int be), some (.int se), some (.int x12), o8, o9, o10], [(.int x12)])) (w1 := w) rfl rfl ?_
          refine s_if 174 108 rfl rfl rfl (fun (h26 : x12.toInt = 0) => ?_) (fun (h26 : ¬ (x12.toInt = 0)) => ?_)
          · --
            refine aw_step (f1 := (177, [some (.ref 65), some (.int b), some (.int wh), some (.long al), none, some (.int be), some (.int (se + Int32.ofInt 1)), some (.int x12), o8, o9, o10], [])) (w1 := w) rfl rfl ?_
            obtain ⟨x27, x27e⟩ : ∃ z, z = (se + Int32.ofInt 1) := ⟨_, rfl⟩
            have x27t : x27.toInt = se.toInt + (1) := by rw [x27e]; exact n_add (y := Int32.ofInt (1)) (by show _ ≤ _ + (1 : Int); omega) (by show _ + (1 : Int) ≤ _; omega)
            rw [← x27e]
            refine aw_step (f1 := (51, [some (.ref 65), some (.int b), some (.int wh), some (.long al), none, some (.int be), some (.int x27), some (.int x12), o8, o9, o10], [])) (w1 := w) rfl rfl ?_
            refine ih be x27 _ _ _ _ (by omega) (by omega) (by omega) (by omega) ?_
            rw [show x27.toInt.toNat = se.toInt.toNat + 1 by omega]
            refine B.no fun s => ?_
            have s0 := si.mpr s.1
            refine ⟨by omega, by omega⟩
          · --
            refine aw_step (f1 := (110, [some (.ref 65), some (.int b), some (.int wh), some (.long al), none, some (.int be), some (.int se), some (.int x12), o8, o9, o10], [(.int se)])) (w1 := w) rfl rfl ?_
            refine s_l (pc1 := 111) (ls1 := [some (.ref 65), some (.int b), some (.int wh), some (.long al), none, some (.int be), some (.int se), some (.int x12), o8, o9, o10]) (st1 := []) rfl rfl fun y28 e29 => ?_
            have e29t : y28.toInt = se.toInt := by rw [e29]; exact Int32.toInt_toInt64 se
            refine aw_step (f1 := (113, [some (.ref 65), some (.int b), some (.int wh), some (.long al), none, some (.int be), some (.int se), some (.int x12), some (.long y28), none, o10], [])) (w1 := w) rfl rfl ?_
            refine s_i (pc1 := 114) (ls1 := [some (.ref 65), some (.int b), some (.int wh), some (.long al), none, some (.int be), some (.int se), some (.int x12), some (.long y28), none, o10]) (st1 := []) rfl rfl fun x30 e31 => ?_
            have e31t : x30.toInt = 0 := by rw [e31]; rfl
            refine aw_step (f1 := (116, [some (.ref 65), some (.int b), some (.int wh), some (.long al), none, some (.int be), some (.int se), some (.int x12), some (.long y28), none, some (.int x30)], [])) (w1 := w) rfl rfl ?_
            refine f_poH J b wh al be se x12 (by omega) (fun h9 c9 H9 => ?_) 17 y28 x30 (by omega) (by omega) (by omega) (fun j => by
              rw [n64_i e29t (by omega)]
              exact ⟨fun u => Or.inl u, fun u => by
                rcases u with u | ⟨q, q1, _⟩
                · exact u
                · omega⟩)
            rw [hsz] at H9
            have sub := si.mp (by omega)
            have sl9 : slP V L se.toInt.toNat ↔ h9.toInt = al.toInt := by
              constructor
              · intro s
                have e : n64 h9 = n64 al := bt_un (F := fun j => ldN V j) (fun j => (H9 j).trans ⟨fun u => ?_, fun u => ?_⟩) hal
                · rw [n64_inj e]
                · rcases u with u | ⟨q, q1, q2, q3⟩
                  · exact s.1 j u
                  · exact ((lr q j q1).mp q3).2.1
                · obtain ⟨c, c1, c2⟩ := s.2 j u
                  rcases c2 with c2 | c2
                  · exact Or.inl (by rw [c2]; exact c1)
                  · have lc := s.1 c c1
                    exact Or.inr ⟨c, lc.1, c1, (lr c j lc.1).mpr ⟨lc.2, c2⟩⟩
              · intro e
                have e2 : h9 = al := Int64.toInt_inj.mp e
                refine ⟨sub, fun j hj => ?_⟩
                have := (hal j).mpr hj
                rw [← e2] at this
                rcases (H9 j).mp this with u | ⟨q, q1, q2, q3⟩
                · exact ⟨j, u, Or.inl rfl⟩
                · exact ⟨q, q2, Or.inr ((lr q j q1).mp q3).2⟩
            refine aw_step (f1 := (160, [some (.ref 65), some (.int b), some (.int wh), some (.long al), none, some (.int be), some (.int se), some (.int x12), some (.long h9), none, some (.int c9)], [(.long h9)])) (w1 := w) rfl rfl ?_
            refine aw_step (f1 := (161, [some (.ref 65), some (.int b), some (.int wh), some (.long al), none, some (.int be), some (.int se), some (.int x12), some (.long h9), none, some (.int c9)], [(.long al), (.long h9)])) (w1 := w) rfl rfl ?_
            refine s_lc 170 165 162 rfl rfl rfl rfl rfl (fun (zh1 : ¬ h9.toInt = al.toInt) => ?_) (fun (zh1 : ¬ (¬ h9.toInt = al.toInt)) => ?_)
            · --
              --
              refine aw_step (f1 := (172, [some (.ref 65), some (.int b), some (.int wh), some (.long al), none, some (.int be), some (.int se), some (.int x12), some (.long h9), none, some (.int c9)], [(.int be)])) (w1 := w) rfl rfl ?_
              refine aw_step (f1 := (174, [some (.ref 65), some (.int b), some (.int wh), some (.long al), none, some (.int be), some (.int se), some (.int x12), some (.long h9), none, some (.int c9)], [])) (w1 := w) rfl rfl ?_
              refine aw_step (f1 := (177, [some (.ref 65), some (.int b), some (.int wh), some (.long al), none, some (.int be), some (.int (se + Int32.ofInt 1)), some (.int x12), some (.long h9), none, some (.int c9)], [])) (w1 := w) rfl rfl ?_
              obtain ⟨zx2, zx2e⟩ : ∃ z, z = (se + Int32.ofInt 1) := ⟨_, rfl⟩
              have zx2t : zx2.toInt = se.toInt + (1) := by rw [zx2e]; exact n_add (y := Int32.ofInt (1)) (by show _ ≤ _ + (1 : Int); omega) (by show _ + (1 : Int) ≤ _; omega)
              rw [← zx2e]
              refine aw_step (f1 := (51, [some (.ref 65), some (.int b), some (.int wh), some (.long al), none, some (.int be), some (.int zx2), some (.int x12), some (.long h9), none, some (.int c9)], [])) (w1 := w) rfl rfl ?_
              refine ih be zx2 _ _ _ _ (by omega) (by omega) (by omega) (by omega) ?_
              rw [show zx2.toInt.toNat = se.toInt.toNat + 1 by omega]
              exact B.no fun s => absurd (sl9.mp s) (by omega)
            · --
              --
              refine aw_step (f1 := (167, [some (.ref 65), some (.int b), some (.int wh), some (.long al), none, some (.int be), some (.int se), some (.int x12), some (.long h9), none, some (.int c9)], [(.int se)])) (w1 := w) rfl rfl ?_
              refine aw_step (f1 := (172, [some (.ref 65), some (.int b), some (.int wh), some (.long al), none, some (.int be), some (.int se), some (.int x12), some (.long h9), none, some (.int c9)], [(.int se)])) (w1 := w) rfl rfl ?_
              refine aw_step (f1 := (174, [some (.ref 65), some (.int b), some (.int wh), some (.long al), none, some (.int se), some (.int se), some (.int x12), some (.long h9), none, some (.int c9)], [])) (w1 := w) rfl rfl ?_
              refine aw_step (f1 := (177, [some (.ref 65), some (.int b), some (.int wh), some (.long al), none, some (.int se), some (.int (se + Int32.ofInt 1)), some (.int x12), some (.long h9), none, some (.int c9)], [])) (w1 := w) rfl rfl ?_
              obtain ⟨zx3, zx3e⟩ : ∃ z, z = (se + Int32.ofInt 1) := ⟨_, rfl⟩
              have zx3t : zx3.toInt = se.toInt + (1) := by rw [zx3e]; exact n_add (y := Int32.ofInt (1)) (by show _ ≤ _ + (1 : Int); omega) (by show _ + (1 : Int) ≤ _; omega)
              rw [← zx3e]
              refine aw_step (f1 := (51, [some (.ref 65), some (.int b), some (.int wh), some (.long al), none, some (.int se), some (.int zx3), some (.int x12), some (.long h9), none, some (.int c9)], [])) (w1 := w) rfl rfl ?_
              refine ih se zx3 _ _ _ _ (by omega) (by omega) (by omega) (by omega) ?_
              rw [show zx3.toInt.toNat = se.toInt.toNat + 1 by omega]
              exact B.ye (sl9.mpr (by omega)) (by omega) (by omega)
      · --
        refine aw_step (f1 := (69, [some (.ref 65), some (.int b), some (.int wh), some (.long al), none, some (.int be), some (.int se), o7, o8, o9, o10], [(.int se)])) (w1 := w) rfl rfl ?_
        refine s_l (pc1 := 70) (ls1 := [some (.ref 65), some (.int b), some (.int wh), some (.long al), none, some (.int be), some (.int se), o7, o8, o9, o10]) (st1 := []) rfl rfl fun y32 e33 => ?_
        have e33t : y32.toInt = se.toInt := by rw [e33]; exact Int32.toInt_toInt64 se
        have nA : n64 y32 = se.toInt.toNat := n64_i e33t (by omega)
        refine s_cs (z := 109) (as := [(.long y32)]) (st1 := []) 73 rfl rfl rfl rfl rfl rfl (Nat.le_of_ble_eq_true rfl) (Nat.le_of_ble_eq_true rfl) (Nat.le_of_ble_eq_true rfl) (q_ones y32) ?_
        rintro _ _ ⟨rfl, x34, rfl, x34t⟩
        refine ⟨rfl, ?_⟩
        show aw none _ 177 _ (73, [some (.ref 65), some (.int b), some (.int wh), some (.long al), none, some (.int be), some (.int se), o7, o8, o9, o10], [(.int x34)]) w
        have x34c := cnt_le (n64 y32) 64
        rw [nA] at x34t
        refine aw_step (f1 := (75, [some (.ref 65), some (.int b), some (.int wh), some (.long al), none, some (.int be), some (.int se), o7, o8, o9, o10], [(.int be), (.int x34)])) (w1 := w) rfl rfl ?_
        refine s_l (pc1 := 76) (ls1 := [some (.ref 65), some (.int b), some (.int wh), some (.long al), none, some (.int be), some (.int se), o7, o8, o9, o10]) (st1 := [(.int x34)]) rfl rfl fun y35 e36 => ?_
        have e36t : y35.toInt = be.toInt := by rw [e36]; exact Int32.toInt_toInt64 be
        have nB : n64 y35 = be.toInt.toNat := n64_i e36t (by omega)
        refine s_cs (z := 109) (as := [(.long y35)]) (st1 := [(.int x34)]) 79 rfl rfl rfl rfl rfl rfl (Nat.le_of_ble_eq_true rfl) (Nat.le_of_ble_eq_true rfl) (Nat.le_of_ble_eq_true rfl) (q_ones y35) ?_
        rintro _ _ ⟨rfl, x37, rfl, x37t⟩
        refine ⟨rfl, ?_⟩
        show aw none _ 177 _ (79, [some (.ref 65), some (.int b), some (.int wh), some (.long al), none, some (.int be), some (.int se), o7, o8, o9, o10], [(.int x37), (.int x34)]) w
        have x37c := cnt_le (n64 y35) 64
        rw [nB] at x37t
        refine s_ic 86 82 rfl rfl rfl (fun (h38 : x37.toInt ≤ x34.toInt) => ?_) (fun (h38 : ¬ (x37.toInt ≤ x34.toInt)) => ?_)
        · --
          refine s_i (pc1 := 87) (ls1 := [some (.ref 65), some (.int b), some (.int wh), some (.long al), none, some (.int be), some (.int se), o7, o8, o9, o10]) (st1 := []) rfl rfl fun x39 e40 => ?_
          have e40t : x39.toInt = 0 := by rw [e40]; rfl
          refine aw_step (f1 := (89, [some (.ref 65), some (.int b), some (.int wh), some (.long al), none, some (.int be), some (.int se), some (.int x39), o8, o9, o10], [])) (w1 := w) rfl rfl ?_
          refine aw_step (f1 := (91, [some (.ref 65), some (.int b), some (.int wh), some (.long al), none, some (.int be), some (.int se), some (.int x39), o8, o9, o10], [(.int se)])) (w1 := w) rfl rfl ?_
          refine s_l (pc1 := 92) (ls1 := [some (.ref 65), some (.int b), some (.int wh), some (.long al), none, some (.int be), some (.int se), some (.int x39), o8, o9, o10]) (st1 := []) rfl rfl fun y41 e42 => ?_
          have e42t : y41.toInt = se.toInt := by rw [e42]; exact Int32.toInt_toInt64 se
          have nC : n64 y41 = se.toInt.toNat := n64_i e42t (by omega)
          refine aw_step (f1 := (93, [some (.ref 65), some (.int b), some (.int wh), some (.long al), none, some (.int be), some (.int se), some (.int x39), o8, o9, o10], [(.long al), (.long y41)])) (w1 := w) rfl rfl ?_
          refine s_l (pc1 := 96) (ls1 := [some (.ref 65), some (.int b), some (.int wh), some (.long al), none, some (.int be), some (.int se), some (.int x39), o8, o9, o10]) (st1 := [(.long al), (.long y41)]) rfl rfl fun y43 e44 => ?_
          have e44t : y43.toInt = -1 := by rw [e44]; rfl
          --
          refine s_l (pc1 := 97) (ls1 := [some (.ref 65), some (.int b), some (.int wh), some (.long al), none, some (.int be), some (.int se), some (.int x39), o8, o9, o10]) (st1 := [(.long y41)]) rfl rfl fun y45 e46 => ?_
          have e46 : y45 = al ^^^ y43 := e46
          --
          refine s_l (pc1 := 98) (ls1 := [some (.ref 65), some (.int b), some (.int wh), some (.long al), none, some (.int be), some (.int se), some (.int x39), o8, o9, o10]) (st1 := []) rfl rfl fun y47 e48 => ?_
          have e48 : y47 = y41 &&& y45 := e48
          have si : y47.toInt = 0 ↔ ∀ q, bt se.toInt.toNat q = 1 → ldN V q := by
            have q := sub_iff (y := y47) (x := y41) (d := al) (m := y43) e44t (by rw [e48, e46])
            rw [nC] at q
            exact q.trans ⟨fun h j hj => (hal j).mp (h j hj), fun h j hj => (hal j).mpr (h j hj)⟩
          refine s_l (pc1 := 99) (ls1 := [some (.ref 65), some (.int b), some (.int wh), some (.long al), none, some (.int be), some (.int se), some (.int x39), o8, o9, o10]) (st1 := [(.long y47)]) rfl rfl fun y49 e50 => ?_
          have e50t : y49.toInt = 0 := by rw [e50]; rfl
          refine s_lc 174 103 100 rfl rfl rfl rfl rfl (fun (h51 : ¬ y47.toInt = y49.toInt) => ?_) (fun (h51 : ¬ (¬ y47.toInt = y49.toInt)) => ?_)
          · --
            refine aw_step (f1 := (177, [some (.ref 65), some (.int b), some (.int wh), some (.long al), none, some (.int be), some (.int (se + Int32.ofInt 1)), some (.int x39), o8, o9, o10], [])) (w1 := w) rfl rfl ?_
            obtain ⟨x52, x52e⟩ : ∃ z, z = (se + Int32.ofInt 1) := ⟨_, rfl⟩
            have x52t : x52.toInt = se.toInt + (1) := by rw [x52e]; exact n_add (y := Int32.ofInt (1)) (by show _ ≤ _ + (1 : Int); omega) (by show _ + (1 : Int) ≤ _; omega)
            rw [← x52e]
            refine aw_step (f1 := (51, [some (.ref 65), some (.int b), some (.int wh), some (.long al), none, some (.int be), some (.int x52), some (.int x39), o8, o9, o10], [])) (w1 := w) rfl rfl ?_
            refine ih be x52 _ _ _ _ (by omega) (by omega) (by omega) (by omega) ?_
            rw [show x52.toInt.toNat = se.toInt.toNat + 1 by omega]
            refine B.no fun s => ?_
            have s0 := si.mpr s.1
            refine ⟨by omega, by omega⟩
          · --
            refine aw_step (f1 := (105, [some (.ref 65), some (.int b), some (.int wh), some (.long al), none, some (.int be), some (.int se), some (.int x39), o8, o9, o10], [(.int x39)])) (w1 := w) rfl rfl ?_
            refine s_if 174 108 rfl rfl rfl (fun (h53 : x39.toInt = 0) => ?_) (fun (h53 : ¬ (x39.toInt = 0)) => ?_)
            · --
              refine aw_step (f1 := (177, [some (.ref 65), some (.int b), some (.int wh), some (.long al), none, some (.int be), some (.int (se + Int32.ofInt 1)), some (.int x39), o8, o9, o10], [])) (w1 := w) rfl rfl ?_
              obtain ⟨x54, x54e⟩ : ∃ z, z = (se + Int32.ofInt 1) := ⟨_, rfl⟩
              have x54t : x54.toInt = se.toInt + (1) := by rw [x54e]; exact n_add (y := Int32.ofInt (1)) (by show _ ≤ _ + (1 : Int); omega) (by show _ + (1 : Int) ≤ _; omega)
              rw [← x54e]
              refine aw_step (f1 := (51, [some (.ref 65), some (.int b), some (.int wh), some (.long al), none, some (.int be), some (.int x54), some (.int x39), o8, o9, o10], [])) (w1 := w) rfl rfl ?_
              refine ih be x54 _ _ _ _ (by omega) (by omega) (by omega) (by omega) ?_
              rw [show x54.toInt.toNat = se.toInt.toNat + 1 by omega]
              refine B.no fun s => ?_
              have s0 := si.mpr s.1
              refine ⟨by omega, by omega⟩
            · --
              refine aw_step (f1 := (110, [some (.ref 65), some (.int b), some (.int wh), some (.long al), none, some (.int be), some (.int se), some (.int x39), o8, o9, o10], [(.int se)])) (w1 := w) rfl rfl ?_
              refine s_l (pc1 := 111) (ls1 := [some (.ref 65), some (.int b), some (.int wh), some (.long al), none, some (.int be), some (.int se), some (.int x39), o8, o9, o10]) (st1 := []) rfl rfl fun y55 e56 => ?_
              have e56t : y55.toInt = se.toInt := by rw [e56]; exact Int32.toInt_toInt64 se
              refine aw_step (f1 := (113, [some (.ref 65), some (.int b), some (.int wh), some (.long al), none, some (.int be), some (.int se), some (.int x39), some (.long y55), none, o10], [])) (w1 := w) rfl rfl ?_
              refine s_i (pc1 := 114) (ls1 := [some (.ref 65), some (.int b), some (.int wh), some (.long al), none, some (.int be), some (.int se), some (.int x39), some (.long y55), none, o10]) (st1 := []) rfl rfl fun x57 e58 => ?_
              have e58t : x57.toInt = 0 := by rw [e58]; rfl
              refine aw_step (f1 := (116, [some (.ref 65), some (.int b), some (.int wh), some (.long al), none, some (.int be), some (.int se), some (.int x39), some (.long y55), none, some (.int x57)], [])) (w1 := w) rfl rfl ?_
              refine f_poH J b wh al be se x39 (by omega) (fun h9 c9 H9 => ?_) 17 y55 x57 (by omega) (by omega) (by omega) (fun j => by
                rw [n64_i e56t (by omega)]
                exact ⟨fun u => Or.inl u, fun u => by
                  rcases u with u | ⟨q, q1, _⟩
                  · exact u
                  · omega⟩)
              rw [hsz] at H9
              have sub := si.mp (by omega)
              have sl9 : slP V L se.toInt.toNat ↔ h9.toInt = al.toInt := by
                constructor
                · intro s
                  have e : n64 h9 = n64 al := bt_un (F := fun j => ldN V j) (fun j => (H9 j).trans ⟨fun u => ?_, fun u => ?_⟩) hal
                  · rw [n64_inj e]
                  · rcases u with u | ⟨q, q1, q2, q3⟩
                    · exact s.1 j u
                    · exact ((lr q j q1).mp q3).2.1
                  · obtain ⟨c, c1, c2⟩ := s.2 j u
                    rcases c2 with c2 | c2
                    · exact Or.inl (by rw [c2]; exact c1)
                    · have lc := s.1 c c1
                      exact Or.inr ⟨c, lc.1, c1, (lr c j lc.1).mpr ⟨lc.2, c2⟩⟩
                · intro e
                  have e2 : h9 = al := Int64.toInt_inj.mp e
                  refine ⟨sub, fun j hj => ?_⟩
                  have := (hal j).mpr hj
                  rw [← e2] at this
                  rcases (H9 j).mp this with u | ⟨q, q1, q2, q3⟩
                  · exact ⟨j, u, Or.inl rfl⟩
                  · exact ⟨q, q2, Or.inr ((lr q j q1).mp q3).2⟩
              refine aw_step (f1 := (160, [some (.ref 65), some (.int b), some (.int wh), some (.long al), none, some (.int be), some (.int se), some (.int x39), some (.long h9), none, some (.int c9)], [(.long h9)])) (w1 := w) rfl rfl ?_
              refine aw_step (f1 := (161, [some (.ref 65), some (.int b), some (.int wh), some (.long al), none, some (.int be), some (.int se), some (.int x39), some (.long h9), none, some (.int c9)], [(.long al), (.long h9)])) (w1 := w) rfl rfl ?_
              refine s_lc 170 165 162 rfl rfl rfl rfl rfl (fun (zh1 : ¬ h9.toInt = al.toInt) => ?_) (fun (zh1 : ¬ (¬ h9.toInt = al.toInt)) => ?_)
              · --
                --
                refine aw_step (f1 := (172, [some (.ref 65), some (.int b), some (.int wh), some (.long al), none, some (.int be), some (.int se), some (.int x39), some (.long h9), none, some (.int c9)], [(.int be)])) (w1 := w) rfl rfl ?_
                refine aw_step (f1 := (174, [some (.ref 65), some (.int b), some (.int wh), some (.long al), none, some (.int be), some (.int se), some (.int x39), some (.long h9), none, some (.int c9)], [])) (w1 := w) rfl rfl ?_
                refine aw_step (f1 := (177, [some (.ref 65), some (.int b), some (.int wh), some (.long al), none, some (.int be), some (.int (se + Int32.ofInt 1)), some (.int x39), some (.long h9), none, some (.int c9)], [])) (w1 := w) rfl rfl ?_
                obtain ⟨zx2, zx2e⟩ : ∃ z, z = (se + Int32.ofInt 1) := ⟨_, rfl⟩
                have zx2t : zx2.toInt = se.toInt + (1) := by rw [zx2e]; exact n_add (y := Int32.ofInt (1)) (by show _ ≤ _ + (1 : Int); omega) (by show _ + (1 : Int) ≤ _; omega)
                rw [← zx2e]
                refine aw_step (f1 := (51, [some (.ref 65), some (.int b), some (.int wh), some (.long al), none, some (.int be), some (.int zx2), some (.int x39), some (.long h9), none, some (.int c9)], [])) (w1 := w) rfl rfl ?_
                refine ih be zx2 _ _ _ _ (by omega) (by omega) (by omega) (by omega) ?_
                rw [show zx2.toInt.toNat = se.toInt.toNat + 1 by omega]
                exact B.no fun s => absurd (sl9.mp s) (by omega)
              · --
                --
                refine aw_step (f1 := (167, [some (.ref 65), some (.int b), some (.int wh), some (.long al), none, some (.int be), some (.int se), some (.int x39), some (.long h9), none, some (.int c9)], [(.int se)])) (w1 := w) rfl rfl ?_
                refine aw_step (f1 := (172, [some (.ref 65), some (.int b), some (.int wh), some (.long al), none, some (.int be), some (.int se), some (.int x39), some (.long h9), none, some (.int c9)], [(.int se)])) (w1 := w) rfl rfl ?_
                refine aw_step (f1 := (174, [some (.ref 65), some (.int b), some (.int wh), some (.long al), none, some (.int se), some (.int se), some (.int x39), some (.long h9), none, some (.int c9)], [])) (w1 := w) rfl rfl ?_
                refine aw_step (f1 := (177, [some (.ref 65), some (.int b), some (.int wh), some (.long al), none, some (.int se), some (.int (se + Int32.ofInt 1)), some (.int x39), some (.long h9), none, some (.int c9)], [])) (w1 := w) rfl rfl ?_
                obtain ⟨zx3, zx3e⟩ : ∃ z, z = (se + Int32.ofInt 1) := ⟨_, rfl⟩
                have zx3t : zx3.toInt = se.toInt + (1) := by rw [zx3e]; exact n_add (y := Int32.ofInt (1)) (by show _ ≤ _ + (1 : Int); omega) (by show _ + (1 : Int) ≤ _; omega)
                rw [← zx3e]
                refine aw_step (f1 := (51, [some (.ref 65), some (.int b), some (.int wh), some (.long al), none, some (.int se), some (.int zx3), some (.int x39), some (.long h9), none, some (.int c9)], [])) (w1 := w) rfl rfl ?_
                refine ih se zx3 _ _ _ _ (by omega) (by omega) (by omega) (by omega) ?_
                rw [show zx3.toInt.toNat = se.toInt.toNat + 1 by omega]
                exact B.ye (sl9.mpr (by omega)) (by omega) (by omega)
        · --
          refine s_i (pc1 := 83) (ls1 := [some (.ref 65), some (.int b), some (.int wh), some (.long al), none, some (.int be), some (.int se), o7, o8, o9, o10]) (st1 := []) rfl rfl fun x59 e60 => ?_
          have e60t : x59.toInt = 1 := by rw [e60]; rfl
          refine aw_step (f1 := (87, [some (.ref 65), some (.int b), some (.int wh), some (.long al), none, some (.int be), some (.int se), o7, o8, o9, o10], [(.int x59)])) (w1 := w) rfl rfl ?_
          refine aw_step (f1 := (89, [some (.ref 65), some (.int b), some (.int wh), some (.long al), none, some (.int be), some (.int se), some (.int x59), o8, o9, o10], [])) (w1 := w) rfl rfl ?_
          refine aw_step (f1 := (91, [some (.ref 65), some (.int b), some (.int wh), some (.long al), none, some (.int be), some (.int se), some (.int x59), o8, o9, o10], [(.int se)])) (w1 := w) rfl rfl ?_
          refine s_l (pc1 := 92) (ls1 := [some (.ref 65), some (.int b), some (.int wh), some (.long al), none, some (.int be), some (.int se), some (.int x59), o8, o9, o10]) (st1 := []) rfl rfl fun y61 e62 => ?_
          have e62t : y61.toInt = se.toInt := by rw [e62]; exact Int32.toInt_toInt64 se
          have nC : n64 y61 = se.toInt.toNat := n64_i e62t (by omega)
          refine aw_step (f1 := (93, [some (.ref 65), some (.int b), some (.int wh), some (.long al), none, some (.int be), some (.int se), some (.int x59), o8, o9, o10], [(.long al), (.long y61)])) (w1 := w) rfl rfl ?_
          refine s_l (pc1 := 96) (ls1 := [some (.ref 65), some (.int b), some (.int wh), some (.long al), none, some (.int be), some (.int se), some (.int x59), o8, o9, o10]) (st1 := [(.long al), (.long y61)]) rfl rfl fun y63 e64 => ?_
          have e64t : y63.toInt = -1 := by rw [e64]; rfl
          --
          refine s_l (pc1 := 97) (ls1 := [some (.ref 65), some (.int b), some (.int wh), some (.long al), none, some (.int be), some (.int se), some (.int x59), o8, o9, o10]) (st1 := [(.long y61)]) rfl rfl fun y65 e66 => ?_
          have e66 : y65 = al ^^^ y63 := e66
          --
          refine s_l (pc1 := 98) (ls1 := [some (.ref 65), some (.int b), some (.int wh), some (.long al), none, some (.int be), some (.int se), some (.int x59), o8, o9, o10]) (st1 := []) rfl rfl fun y67 e68 => ?_
          have e68 : y67 = y61 &&& y65 := e68
          have si : y67.toInt = 0 ↔ ∀ q, bt se.toInt.toNat q = 1 → ldN V q := by
            have q := sub_iff (y := y67) (x := y61) (d := al) (m := y63) e64t (by rw [e68, e66])
            rw [nC] at q
            exact q.trans ⟨fun h j hj => (hal j).mp (h j hj), fun h j hj => (hal j).mpr (h j hj)⟩
          refine s_l (pc1 := 99) (ls1 := [some (.ref 65), some (.int b), some (.int wh), some (.long al), none, some (.int be), some (.int se), some (.int x59), o8, o9, o10]) (st1 := [(.long y67)]) rfl rfl fun y69 e70 => ?_
          have e70t : y69.toInt = 0 := by rw [e70]; rfl
          refine s_lc 174 103 100 rfl rfl rfl rfl rfl (fun (h71 : ¬ y67.toInt = y69.toInt) => ?_) (fun (h71 : ¬ (¬ y67.toInt = y69.toInt)) => ?_)
          · --
            refine aw_step (f1 := (177, [some (.ref 65), some (.int b), some (.int wh), some (.long al), none, some (.int be), some (.int (se + Int32.ofInt 1)), some (.int x59), o8, o9, o10], [])) (w1 := w) rfl rfl ?_
            obtain ⟨x72, x72e⟩ : ∃ z, z = (se + Int32.ofInt 1) := ⟨_, rfl⟩
            have x72t : x72.toInt = se.toInt + (1) := by rw [x72e]; exact n_add (y := Int32.ofInt (1)) (by show _ ≤ _ + (1 : Int); omega) (by show _ + (1 : Int) ≤ _; omega)
            rw [← x72e]
            refine aw_step (f1 := (51, [some (.ref 65), some (.int b), some (.int wh), some (.long al), none, some (.int be), some (.int x72), some (.int x59), o8, o9, o10], [])) (w1 := w) rfl rfl ?_
            refine ih be x72 _ _ _ _ (by omega) (by omega) (by omega) (by omega) ?_
            rw [show x72.toInt.toNat = se.toInt.toNat + 1 by omega]
            refine B.no fun s => ?_
            have s0 := si.mpr s.1
            refine ⟨by omega, by omega⟩
          · --
            refine aw_step (f1 := (105, [some (.ref 65), some (.int b), some (.int wh), some (.long al), none, some (.int be), some (.int se), some (.int x59), o8, o9, o10], [(.int x59)])) (w1 := w) rfl rfl ?_
            refine s_if 174 108 rfl rfl rfl (fun (h73 : x59.toInt = 0) => ?_) (fun (h73 : ¬ (x59.toInt = 0)) => ?_)
            · --
              refine aw_step (f1 := (177, [some (.ref 65), some (.int b), some (.int wh), some (.long al), none, some (.int be), some (.int (se + Int32.ofInt 1)), some (.int x59), o8, o9, o10], [])) (w1 := w) rfl rfl ?_
              obtain ⟨x74, x74e⟩ : ∃ z, z = (se + Int32.ofInt 1) := ⟨_, rfl⟩
              have x74t : x74.toInt = se.toInt + (1) := by rw [x74e]; exact n_add (y := Int32.ofInt (1)) (by show _ ≤ _ + (1 : Int); omega) (by show _ + (1 : Int) ≤ _; omega)
              rw [← x74e]
              refine aw_step (f1 := (51, [some (.ref 65), some (.int b), some (.int wh), some (.long al), none, some (.int be), some (.int x74), some (.int x59), o8, o9, o10], [])) (w1 := w) rfl rfl ?_
              refine ih be x74 _ _ _ _ (by omega) (by omega) (by omega) (by omega) ?_
              rw [show x74.toInt.toNat = se.toInt.toNat + 1 by omega]
              refine B.no fun s => ?_
              have s0 := si.mpr s.1
              refine ⟨by omega, by omega⟩
            · --
              refine aw_step (f1 := (110, [some (.ref 65), some (.int b), some (.int wh), some (.long al), none, some (.int be), some (.int se), some (.int x59), o8, o9, o10], [(.int se)])) (w1 := w) rfl rfl ?_
              refine s_l (pc1 := 111) (ls1 := [some (.ref 65), some (.int b), some (.int wh), some (.long al), none, some (.int be), some (.int se), some (.int x59), o8, o9, o10]) (st1 := []) rfl rfl fun y75 e76 => ?_
              have e76t : y75.toInt = se.toInt := by rw [e76]; exact Int32.toInt_toInt64 se
              refine aw_step (f1 := (113, [some (.ref 65), some (.int b), some (.int wh), some (.long al), none, some (.int be), some (.int se), some (.int x59), some (.long y75), none, o10], [])) (w1 := w) rfl rfl ?_
              refine s_i (pc1 := 114) (ls1 := [some (.ref 65), some (.int b), some (.int wh), some (.long al), none, some (.int be), some (.int se), some (.int x59), some (.long y75), none, o10]) (st1 := []) rfl rfl fun x77 e78 => ?_
              have e78t : x77.toInt = 0 := by rw [e78]; rfl
              refine aw_step (f1 := (116, [some (.ref 65), some (.int b), some (.int wh), some (.long al), none, some (.int be), some (.int se), some (.int x59), some (.long y75), none, some (.int x77)], [])) (w1 := w) rfl rfl ?_
              refine f_poH J b wh al be se x59 (by omega) (fun h9 c9 H9 => ?_) 17 y75 x77 (by omega) (by omega) (by omega) (fun j => by
                rw [n64_i e76t (by omega)]
                exact ⟨fun u => Or.inl u, fun u => by
                  rcases u with u | ⟨q, q1, _⟩
                  · exact u
                  · omega⟩)
              rw [hsz] at H9
              have sub := si.mp (by omega)
              have sl9 : slP V L se.toInt.toNat ↔ h9.toInt = al.toInt := by
                constructor
                · intro s
                  have e : n64 h9 = n64 al := bt_un (F := fun j => ldN V j) (fun j => (H9 j).trans ⟨fun u => ?_, fun u => ?_⟩) hal
                  · rw [n64_inj e]
                  · rcases u with u | ⟨q, q1, q2, q3⟩
                    · exact s.1 j u
                    · exact ((lr q j q1).mp q3).2.1
                  · obtain ⟨c, c1, c2⟩ := s.2 j u
                    rcases c2 with c2 | c2
                    · exact Or.inl (by rw [c2]; exact c1)
                    · have lc := s.1 c c1
                      exact Or.inr ⟨c, lc.1, c1, (lr c j lc.1).mpr ⟨lc.2, c2⟩⟩
                · intro e
                  have e2 : h9 = al := Int64.toInt_inj.mp e
                  refine ⟨sub, fun j hj => ?_⟩
                  have := (hal j).mpr hj
                  rw [← e2] at this
                  rcases (H9 j).mp this with u | ⟨q, q1, q2, q3⟩
                  · exact ⟨j, u, Or.inl rfl⟩
                  · exact ⟨q, q2, Or.inr ((lr q j q1).mp q3).2⟩
              refine aw_step (f1 := (160, [some (.ref 65), some (.int b), some (.int wh), some (.long al), none, some (.int be), some (.int se), some (.int x59), some (.long h9), none, some (.int c9)], [(.long h9)])) (w1 := w) rfl rfl ?_
              refine aw_step (f1 := (161, [some (.ref 65), some (.int b), some (.int wh), some (.long al), none, some (.int be), some (.int se), some (.int x59), some (.long h9), none, some (.int c9)], [(.long al), (.long h9)])) (w1 := w) rfl rfl ?_
              refine s_lc 170 165 162 rfl rfl rfl rfl rfl (fun (zh1 : ¬ h9.toInt = al.toInt) => ?_) (fun (zh1 : ¬ (¬ h9.toInt = al.toInt)) => ?_)
              · --
                --
                refine aw_step (f1 := (172, [some (.ref 65), some (.int b), some (.int wh), some (.long al), none, some (.int be), some (.int se), some (.int x59), some (.long h9), none, some (.int c9)], [(.int be)])) (w1 := w) rfl rfl ?_
                refine aw_step (f1 := (174, [some (.ref 65), some (.int b), some (.int wh), some (.long al), none, some (.int be), some (.int se), some (.int x59), some (.long h9), none, some (.int c9)], [])) (w1 := w) rfl rfl ?_
                refine aw_step (f1 := (177, [some (.ref 65), some (.int b), some (.int wh), some (.long al), none, some (.int be), some (.int (se + Int32.ofInt 1)), some (.int x59), some (.long h9), none, some (.int c9)], [])) (w1 := w) rfl rfl ?_
                obtain ⟨zx2, zx2e⟩ : ∃ z, z = (se + Int32.ofInt 1) := ⟨_, rfl⟩
                have zx2t : zx2.toInt = se.toInt + (1) := by rw [zx2e]; exact n_add (y := Int32.ofInt (1)) (by show _ ≤ _ + (1 : Int); omega) (by show _ + (1 : Int) ≤ _; omega)
                rw [← zx2e]
                refine aw_step (f1 := (51, [some (.ref 65), some (.int b), some (.int wh), some (.long al), none, some (.int be), some (.int zx2), some (.int x59), some (.long h9), none, some (.int c9)], [])) (w1 := w) rfl rfl ?_
                refine ih be zx2 _ _ _ _ (by omega) (by omega) (by omega) (by omega) ?_
                rw [show zx2.toInt.toNat = se.toInt.toNat + 1 by omega]
                exact B.no fun s => absurd (sl9.mp s) (by omega)
              · --
                --
                refine aw_step (f1 := (167, [some (.ref 65), some (.int b), some (.int wh), some (.long al), none, some (.int be), some (.int se), some (.int x59), some (.long h9), none, some (.int c9)], [(.int se)])) (w1 := w) rfl rfl ?_
                refine aw_step (f1 := (172, [some (.ref 65), some (.int b), some (.int wh), some (.long al), none, some (.int be), some (.int se), some (.int x59), some (.long h9), none, some (.int c9)], [(.int se)])) (w1 := w) rfl rfl ?_
                refine aw_step (f1 := (174, [some (.ref 65), some (.int b), some (.int wh), some (.long al), none, some (.int se), some (.int se), some (.int x59), some (.long h9), none, some (.int c9)], [])) (w1 := w) rfl rfl ?_
                refine aw_step (f1 := (177, [some (.ref 65), some (.int b), some (.int wh), some (.long al), none, some (.int se), some (.int (se + Int32.ofInt 1)), some (.int x59), some (.long h9), none, some (.int c9)], [])) (w1 := w) rfl rfl ?_
                obtain ⟨zx3, zx3e⟩ : ∃ z, z = (se + Int32.ofInt 1) := ⟨_, rfl⟩
                have zx3t : zx3.toInt = se.toInt + (1) := by rw [zx3e]; exact n_add (y := Int32.ofInt (1)) (by show _ ≤ _ + (1 : Int); omega) (by show _ + (1 : Int) ≤ _; omega)
                rw [← zx3e]
                refine aw_step (f1 := (51, [some (.ref 65), some (.int b), some (.int wh), some (.long al), none, some (.int se), some (.int zx3), some (.int x59), some (.long h9), none, some (.int c9)], [])) (w1 := w) rfl rfl ?_
                refine ih se zx3 _ _ _ _ (by omega) (by omega) (by omega) (by omega) ?_
                rw [show zx3.toInt.toNat = se.toInt.toNat + 1 by omega]
                exact B.ye (sl9.mpr (by omega)) (by omega) (by omega)
theorem f_posts {d : Nat} {w : am_W} {V : Nat → Int} (R : RMs w V) (hh : 0 ≤ V 2 ∧ V 2 < szV V) (hhl : V (40 + (V 2).toNat) ≠ 126) (b wh : Int32) (I : ab_inv ab_TT ab_sets w) : aw none (d + 6) 177 (fun r w1 => ab_J ab_TT ab_sets ab_WR w w1 ∧ ∃ z : Int32, r = some (.int z) ∧ posP V b.toInt wh.toInt z.toInt) (0, am_entry 177 [.ref 65, .int b, .int wh], []) w := by
  have J : ab_J ab_TT ab_sets ab_WR w w := ⟨I, ab_fr.rf⟩
  have szm := szM_in I
  have hsz := R.sz
  show aw none (d + 6) 177 _ (0, [some (.ref 65), some (.int b), some (.int wh), none, none, none, none, none, none, none, none], []) w
  refine aw_step (f1 := (1, [some (.ref 65), some (.int b), some (.int wh), none, none, none, none, none, none, none, none], [(.int b)])) (w1 := w) rfl rfl ?_
  refine s_cs (z := 116) (as := [(.int b)]) (st1 := []) 4 rfl rfl rfl rfl rfl rfl (Nat.le_of_ble_eq_true rfl) (Nat.le_of_ble_eq_true rfl) (Nat.le_of_ble_eq_true rfl) (q_areBoots b) ?_
  rintro _ _ ⟨rfl, x1, rfl, x1t⟩
  refine ⟨rfl, ?_⟩
  show aw none _ 177 _ (4, [some (.ref 65), some (.int b), some (.int wh), none, none, none, none, none, none, none, none], [(.int x1)]) w
  refine s_if 9 7 rfl rfl rfl (fun (h2 : ¬ x1.toInt = 0) => ?_) (fun (h2 : ¬ (¬ x1.toInt = 0)) => ?_)
  · --
    refine aw_step (f1 := (10, [some (.ref 65), some (.int b), some (.int wh), none, none, none, none, none, none, none, none], [(.int wh)])) (w1 := w) rfl rfl ?_
    refine s_l (pc1 := 11) (ls1 := [some (.ref 65), some (.int b), some (.int wh), none, none, none, none, none, none, none, none]) (st1 := []) rfl rfl fun y3 e4 => ?_
    have e4t : y3.toInt = wh.toInt := by rw [e4]; exact Int32.toInt_toInt64 wh
    refine s_l (pc1 := 12) (ls1 := [some (.ref 65), some (.int b), some (.int wh), none, none, none, none, none, none, none, none]) (st1 := [(.long y3)]) rfl rfl fun y5 e6 => ?_
    have e6t : y5.toInt = 0 := by rw [e6]; rfl
    refine s_l (pc1 := 13) (ls1 := [some (.ref 65), some (.int b), some (.int wh), none, none, none, none, none, none, none, none]) (st1 := [(.long y5), (.long y3)]) rfl rfl fun y7 e8 => ?_
    have e8t : y7.toInt = 1 := by rw [e8]; rfl
    refine s_cs (z := 108) (as := [(.long y3), (.long y5), (.long y7)]) (st1 := []) 16 rfl rfl rfl rfl rfl rfl (Nat.le_of_ble_eq_true rfl) (Nat.le_of_ble_eq_true rfl) (Nat.le_of_ble_eq_true rfl) (q_in2 y3 y5 y7) ?_
    rintro _ _ ⟨rfl, x9, rfl, x9t⟩
    refine ⟨rfl, ?_⟩
    show aw none _ 177 _ (16, [some (.ref 65), some (.int b), some (.int wh), none, none, none, none, none, none, none, none], [(.int x9)]) w
    refine s_if 22 19 rfl rfl rfl (fun (h10 : ¬ x9.toInt = 0) => ?_) (fun (h10 : ¬ (¬ x9.toInt = 0)) => ?_)
    · --
      refine aw_step (f1 := (23, [some (.ref 65), some (.int b), some (.int wh), none, none, none, none, none, none, none, none], [(.ref 65)])) (w1 := w) rfl rfl ?_
      refine s_cv (z := 113) (p := 65) (as := []) (st1 := []) J 26 rfl rfl rfl rfl rfl rfl rfl rfl (Nat.le_of_ble_eq_true rfl) (Nat.le_of_ble_eq_true rfl) (q_cells J.1) ?_
      rintro _ _ ⟨rfl, x11, rfl, x11t⟩
      refine ⟨rfl, ?_⟩
      show aw none _ 177 _ (26, [some (.ref 65), some (.int b), some (.int wh), none, none, none, none, none, none, none, none], [(.int x11)]) w
      have x11s := szM_in J.1
      refine s_i (pc1 := 28) (ls1 := [some (.ref 65), some (.int b), some (.int wh), none, none, none, none, none, none, none, none]) (st1 := [(.int x11)]) rfl rfl fun x12 e13 => ?_
      have e13t : x12.toInt = 16 := by rw [e13]; rfl
      refine s_ic 34 31 rfl rfl rfl (fun (h14 : x11.toInt ≤ x12.toInt) => ?_) (fun (h14 : ¬ (x11.toInt ≤ x12.toInt)) => ?_)
      · --
        refine aw_step (f1 := (35, [some (.ref 65), some (.int b), some (.int wh), none, none, none, none, none, none, none, none], [(.ref 65)])) (w1 := w) rfl rfl ?_
        refine aw_step (f1 := (36, [some (.ref 65), some (.int b), some (.int wh), none, none, none, none, none, none, none, none], [(.int b), (.ref 65)])) (w1 := w) rfl rfl ?_
        refine s_cv (z := 133) (p := 65) (as := [(.int b)]) (st1 := []) J 39 rfl rfl rfl rfl rfl rfl rfl rfl (Nat.le_of_ble_eq_true rfl) (Nat.le_of_ble_eq_true rfl) (q_putOn b ⟨by omega, by omega⟩ J.1) ?_
        rintro _ w15 ⟨rfl, J16c, w15o, w15p⟩
        have J16 := J.trans J16c
        refine ⟨am_len2 J J16c, ?_⟩
        show aw none _ 177 _ (39, [some (.ref 65), some (.int b), some (.int wh), none, none, none, none, none, none, none, none], []) w15
        have l67 : rI w 67 b.toInt.toNat = V (8 + 4 * b.toInt.toNat + 0) := R.ra (i := b.toInt.toNat) (c := 0) (by omega) (by decide)
        have lr := rowM_V R (by omega) w15p
        rw [l67] at lr
        have R2 := R.wr I J16
        refine aw_step (f1 := (40, [some (.ref 65), some (.int b), some (.int wh), none, none, none, none, none, none, none, none], [(.ref 65)])) (w1 := w15) rfl rfl ?_
        refine s_cv (z := 117) (p := 65) (as := []) (st1 := []) J16 43 rfl rfl rfl rfl rfl rfl rfl rfl (Nat.le_of_ble_eq_true rfl) (Nat.le_of_ble_eq_true rfl) (f_allLand J16.1) ?_
        rintro _ _ ⟨rfl, y17, rfl, y17t⟩
        refine ⟨rfl, ?_⟩
        show aw none _ 177 _ (43, [some (.ref 65), some (.int b), some (.int wh), none, none, none, none, none, none, none, none], [(.long y17)]) w15
        refine aw_step (f1 := (44, [some (.ref 65), some (.int b), some (.int wh), some (.long y17), none, none, none, none, none, none, none], [])) (w1 := w15) rfl rfl ?_
        refine s_i (pc1 := 46) (ls1 := [some (.ref 65), some (.int b), some (.int wh), some (.long y17), none, none, none, none, none, none, none]) (st1 := []) rfl rfl fun x18 e19 => ?_
        have e19t : x18.toInt = -6 := by rw [e19]; rfl
        refine aw_step (f1 := (48, [some (.ref 65), some (.int b), some (.int wh), some (.long y17), none, some (.int x18), none, none, none, none, none], [])) (w1 := w15) rfl rfl ?_
        refine s_i (pc1 := 49) (ls1 := [some (.ref 65), some (.int b), some (.int wh), some (.long y17), none, some (.int x18), none, none, none, none, none]) (st1 := []) rfl rfl fun x20 e21 => ?_
        have e21t : x20.toInt = 1 := by rw [e21]; rfl
        refine aw_step (f1 := (51, [some (.ref 65), some (.int b), some (.int wh), some (.long y17), none, some (.int x18), some (.int x20), none, none, none, none], [])) (w1 := w15) rfl rfl ?_
        refine (f_poO (V := V) (L := V (8 + 4 * b.toInt.toNat + 0)) J16 R2.sz ⟨by omega, by omega⟩ lr b wh ⟨by omega, by omega⟩ y17 (fun j => (y17t j).trans (ldM_V R2 (by omega) j)) 65537 x18 x20 _ _ _ _ (by omega) (by omega) (by have : 1 ≤ 2 ^ (szV V).toNat := Nat.one_le_two_pow; omega) (by omega) ?_).mono ?_
        · rw [show x20.toInt.toNat = 1 by omega]
          refine Or.inl ⟨by omega, fun T hT s => ?_⟩
          have t0 : T = 0 := by omega
          subst t0
          obtain ⟨c, c1, -⟩ := s.2 (V 2).toNat ⟨by omega, hhl⟩
          rw [bt_z] at c1
          omega
        · rintro r w1 ⟨J9, z, rfl, T, hT, hz⟩
          exact ⟨J9, z, rfl, Or.inr (Or.inr (Or.inr ⟨by omega, by omega, by omega, T, hT, hz⟩))⟩
      · --
        refine s_i (pc1 := 33) (ls1 := [some (.ref 65), some (.int b), some (.int wh), none, none, none, none, none, none, none, none]) (st1 := []) rfl rfl fun x22 e23 => ?_
        have e23t : x22.toInt = -4 := by rw [e23]; rfl
        refine aw_ret (v := some (.int x22)) rfl rfl ?_
        first
          | exact ⟨J, x22, rfl, Or.inl ⟨by omega, by omega⟩⟩
          | exact ⟨J, x22, rfl, Or.inr (Or.inl ⟨by omega, by omega, by omega⟩)⟩
          | exact ⟨J, x22, rfl, Or.inr (Or.inr (Or.inl ⟨by omega, by omega, by omega, by omega⟩))⟩
    · --
      refine s_i (pc1 := 21) (ls1 := [some (.ref 65), some (.int b), some (.int wh), none, none, none, none, none, none, none, none]) (st1 := []) rfl rfl fun x24 e25 => ?_
      have e25t : x24.toInt = -2 := by rw [e25]; rfl
      refine aw_ret (v := some (.int x24)) rfl rfl ?_
      first
        | exact ⟨J, x24, rfl, Or.inl ⟨by omega, by omega⟩⟩
        | exact ⟨J, x24, rfl, Or.inr (Or.inl ⟨by omega, by omega, by omega⟩)⟩
        | exact ⟨J, x24, rfl, Or.inr (Or.inr (Or.inl ⟨by omega, by omega, by omega, by omega⟩))⟩
  · --
    refine s_i (pc1 := 8) (ls1 := [some (.ref 65), some (.int b), some (.int wh), none, none, none, none, none, none, none, none]) (st1 := []) rfl rfl fun x26 e27 => ?_
    have e27t : x26.toInt = -1 := by rw [e27]; rfl
    refine aw_ret (v := some (.int x26)) rfl rfl ?_
    first
      | exact ⟨J, x26, rfl, Or.inl ⟨by omega, by omega⟩⟩
      | exact ⟨J, x26, rfl, Or.inr (Or.inl ⟨by omega, by omega, by omega⟩)⟩
      | exact ⟨J, x26, rfl, Or.inr (Or.inr (Or.inl ⟨by omega, by omega, by omega, by omega⟩))⟩
