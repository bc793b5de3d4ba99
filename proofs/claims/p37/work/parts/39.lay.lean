/-! ===== rows of leads; far ===== -/
theorem q_areBoots {d : Nat} {w : am_W} (c : Int32) : aw none (d + 1) 116 (fun r w1 => w = w1 ∧ ∃ b : Int32, r = some (.int b) ∧ ((b.toInt = 1 ∧ 0 ≤ c.toInt ∧ c.toInt ≤ 3) ∨ (b.toInt = 0 ∧ (c.toInt < 0 ∨ 3 < c.toInt)))) (0, am_entry 116 [.int c], []) w := by
  show aw none _ 116 _ (0, [some (.int c)], []) w
  refine aw_step (f1 := (1, [some (.int c)], [(.int c)])) (w1 := w) rfl rfl ?_
  refine s_l (pc1 := 2) (ls1 := [some (.int c)]) (st1 := []) rfl rfl fun y1 e2 => ?_
  have e2t : y1.toInt = c.toInt := by rw [e2]; exact Int32.toInt_toInt64 c
  refine s_l (pc1 := 3) (ls1 := [some (.int c)]) (st1 := [(.long y1)]) rfl rfl fun y3 e4 => ?_
  have e4t : y3.toInt = 0 := by rw [e4]; rfl
  refine s_l (pc1 := 6) (ls1 := [some (.int c)]) (st1 := [(.long y3), (.long y1)]) rfl rfl fun y5 e6 => ?_
  have e6t : y5.toInt = 3 := by rw [e6]; rfl
  refine s_cs (z := 108) (as := [(.long y1), (.long y3), (.long y5)]) (st1 := []) 9 rfl rfl rfl rfl rfl rfl (Nat.le_of_ble_eq_true rfl) (Nat.le_of_ble_eq_true rfl) (Nat.le_of_ble_eq_true rfl) (q_in2 y1 y3 y5) ?_
  rintro _ _ ⟨rfl, x7, rfl, x7t⟩
  refine ⟨rfl, ?_⟩
  show aw none _ 116 _ (9, [some (.int c)], [(.int x7)]) w
  refine aw_ret (v := some (.int x7)) rfl (am_retz (by omega)) ?_
  exact ⟨rfl, x7, rfl, by omega⟩
theorem q_isAsked {d : Nat} {w : am_W} (b f t : Int32) (I : ab_inv ab_TT ab_sets w) : aw none (d + 3) 143 (fun r w1 => w = w1 ∧ ∃ z : Int32, r = some (.int z) ∧ ((z.toInt = 1 ∧ (0 ≤ b.toInt ∧ b.toInt ≤ 3) ∧ (0 ≤ f.toInt ∧ f.toInt < szM w ∧ rI w 66 f.toInt.toNat ≠ 126) ∧ (0 ≤ t.toInt ∧ t.toInt < szM w ∧ rI w 66 t.toInt.toNat ≠ 126)) ∨ (z.toInt = 0 ∧ ((b.toInt < 0 ∨ 3 < b.toInt) ∨ (f.toInt < 0 ∨ szM w ≤ f.toInt ∨ rI w 66 f.toInt.toNat = 126) ∨ (t.toInt < 0 ∨ szM w ≤ t.toInt ∨ rI w 66 t.toInt.toNat = 126))))) (0, am_entry 143 [.ref 65, .int b, .int f, .int t], []) w := by
  have J : ab_J ab_TT ab_sets ab_WR w w := ⟨I, ab_fr.rf⟩
  show aw none _ 143 _ (0, [some (.ref 65), some (.int b), some (.int f), some (.int t)], []) w
  refine aw_step (f1 := (1, [some (.ref 65), some (.int b), some (.int f), some (.int t)], [(.int b)])) (w1 := w) rfl rfl ?_
  refine s_cs (z := 116) (as := [(.int b)]) (st1 := []) 4 rfl rfl rfl rfl rfl rfl (Nat.le_of_ble_eq_true rfl) (Nat.le_of_ble_eq_true rfl) (Nat.le_of_ble_eq_true rfl) (q_areBoots b) ?_
  rintro _ _ ⟨rfl, x1, rfl, x1t⟩
  refine ⟨rfl, ?_⟩
  show aw none _ 143 _ (4, [some (.ref 65), some (.int b), some (.int f), some (.int t)], [(.int x1)]) w
  refine s_if 27 7 rfl rfl rfl (fun (h2 : x1.toInt = 0) => ?_) (fun (h2 : ¬ (x1.toInt = 0)) => ?_)
  · --
    refine s_i (pc1 := 28) (ls1 := [some (.ref 65), some (.int b), some (.int f), some (.int t)]) (st1 := []) rfl rfl fun x3 e4 => ?_
    have e4t : x3.toInt = 0 := by rw [e4]; rfl
    refine aw_ret (v := some (.int x3)) rfl (am_retz (by omega)) ?_
    exact ⟨rfl, x3, rfl, by omega⟩
  · --
    refine aw_step (f1 := (8, [some (.ref 65), some (.int b), some (.int f), some (.int t)], [(.ref 65)])) (w1 := w) rfl rfl ?_
    refine aw_step (f1 := (9, [some (.ref 65), some (.int b), some (.int f), some (.int t)], [(.int f), (.ref 65)])) (w1 := w) rfl rfl ?_
    refine s_cv (z := 115) (p := 65) (as := [(.int f)]) (st1 := []) J 12 rfl rfl rfl rfl rfl rfl rfl rfl (Nat.le_of_ble_eq_true rfl) (Nat.le_of_ble_eq_true rfl) (q_isLand f J.1) ?_
    rintro _ _ ⟨rfl, x5, rfl, x5t⟩
    refine ⟨rfl, ?_⟩
    show aw none _ 143 _ (12, [some (.ref 65), some (.int b), some (.int f), some (.int t)], [(.int x5)]) w
    have x5s := szM_in J.1
    refine s_if 27 15 rfl rfl rfl (fun (h6 : x5.toInt = 0) => ?_) (fun (h6 : ¬ (x5.toInt = 0)) => ?_)
    · --
      refine s_i (pc1 := 28) (ls1 := [some (.ref 65), some (.int b), some (.int f), some (.int t)]) (st1 := []) rfl rfl fun x7 e8 => ?_
      have e8t : x7.toInt = 0 := by rw [e8]; rfl
      refine aw_ret (v := some (.int x7)) rfl (am_retz (by omega)) ?_
      exact ⟨rfl, x7, rfl, by omega⟩
    · --
      refine aw_step (f1 := (16, [some (.ref 65), some (.int b), some (.int f), some (.int t)], [(.ref 65)])) (w1 := w) rfl rfl ?_
      refine aw_step (f1 := (17, [some (.ref 65), some (.int b), some (.int f), some (.int t)], [(.int t), (.ref 65)])) (w1 := w) rfl rfl ?_
      refine s_cv (z := 115) (p := 65) (as := [(.int t)]) (st1 := []) J 20 rfl rfl rfl rfl rfl rfl rfl rfl (Nat.le_of_ble_eq_true rfl) (Nat.le_of_ble_eq_true rfl) (q_isLand t J.1) ?_
      rintro _ _ ⟨rfl, x9, rfl, x9t⟩
      refine ⟨rfl, ?_⟩
      show aw none _ 143 _ (20, [some (.ref 65), some (.int b), some (.int f), some (.int t)], [(.int x9)]) w
      have x9s := szM_in J.1
      refine s_if 27 23 rfl rfl rfl (fun (h10 : x9.toInt = 0) => ?_) (fun (h10 : ¬ (x9.toInt = 0)) => ?_)
      · --
        refine s_i (pc1 := 28) (ls1 := [some (.ref 65), some (.int b), some (.int f), some (.int t)]) (st1 := []) rfl rfl fun x11 e12 => ?_
        have e12t : x11.toInt = 0 := by rw [e12]; rfl
        refine aw_ret (v := some (.int x11)) rfl (am_retz (by omega)) ?_
        exact ⟨rfl, x11, rfl, by omega⟩
      · --
        refine s_i (pc1 := 24) (ls1 := [some (.ref 65), some (.int b), some (.int f), some (.int t)]) (st1 := []) rfl rfl fun x13 e14 => ?_
        have e14t : x13.toInt = 1 := by rw [e14]; rfl
        refine aw_step (f1 := (28, [some (.ref 65), some (.int b), some (.int f), some (.int t)], [(.int x13)])) (w1 := w) rfl rfl ?_
        refine aw_ret (v := some (.int x13)) rfl (am_retz (by omega)) ?_
        exact ⟨rfl, x13, rfl, by omega⟩
/-- a row of leads, its first i cells laid -/
noncomputable def rowM (w : am_W) (far : Int) (p : Nat) (w' : am_W) (i : Int) : Prop := ∀ c : Nat, (c : Int) < i → (ldM w c ∧ ldsM w far c (rL w' p c)) ∨ (¬ ldM w c ∧ rL w' p c = 0)
theorem rowM.ye {w w' w2 : am_W} {far i : Int} {p : Nat} {y : Nat} (h : rowM w far p w' i) (hi : 0 ≤ i) (h1 : rL w2 p i.toNat = y) (h2 : ∀ j, j ≠ i.toNat → rL w2 p j = rL w' p j) (hy : (ldM w i ∧ ldsM w far i y) ∨ (¬ ldM w i ∧ y = 0)) : rowM w far p w2 (i + 1) := by
  intro c hc
  by_cases e : c = i.toNat
  · have e2 : (c : Int) = i := by omega
    rw [e, h1, ← e, e2]
    exact hy
  · rw [h2 c e]
    exact h c (by omega)
theorem rowM.sym {w w' : am_W} {far : Int} {p : Nat} (h : rowM w far p w' (szM w)) {a b : Nat} (ha : (a : Int) < szM w) (hb : (b : Int) < szM w) (q : bt (rL w' p a) b = 1) : bt (rL w' p b) a = 1 := by
  rcases h a ha with ⟨l1, -, l2⟩ | ⟨-, l2⟩
  · obtain ⟨k1, k2⟩ := (l2 b).mp q
    rcases h b hb with ⟨-, -, m2⟩ | ⟨m1, -⟩
    · exact (m2 a).mpr ⟨l1, by rw [sqM_c]; exact k2⟩
    · exact absurd k1 m1
  · rw [l2, bt_z] at q; omega
theorem q_layByL {d : Nat} {wb : am_W} (f : Int32) : ∀ (m : Nat) (w : am_W) (i : Int32), (szM wb - i.toInt).toNat < m → 0 ≤ i.toInt → i.toInt ≤ szM wb → ab_J ab_TT ab_sets ab_WR wb w → only [74] wb w → rowM wb f.toInt 74 w i.toInt → aw none (d + 4) 132 (fun r w1 => r = none ∧ ab_J ab_TT ab_sets ab_WR wb w1 ∧ only [74] wb w1 ∧ rowM wb f.toInt 74 w1 (szM wb)) (2, [some (.ref 65), some (.int f), some (.int i)], []) w := by
  intro m
  induction m with
  | zero => intro w i p; omega
  | succ m ih =>
    intro w i p1 p2 p3 J O R
    have zz := O.sz (by decide)
    refine aw_step (f1 := (3, [some (.ref 65), some (.int f), some (.int i)], [(.int i)])) (w1 := w) rfl rfl ?_
    refine aw_step (f1 := (4, [some (.ref 65), some (.int f), some (.int i)], [(.ref 65), (.int i)])) (w1 := w) rfl rfl ?_
    refine s_cv (z := 113) (p := 65) (as := []) (st1 := [(.int i)]) J 7 rfl rfl rfl rfl rfl rfl rfl rfl (Nat.le_of_ble_eq_true rfl) (Nat.le_of_ble_eq_true rfl) (q_cells J.1) ?_
    rintro _ _ ⟨rfl, x1, rfl, x1t⟩
    refine ⟨rfl, ?_⟩
    show aw none _ 132 _ (7, [some (.ref 65), some (.int f), some (.int i)], [(.int x1), (.int i)]) w
    have x1s := szM_in J.1
    refine s_ic 40 10 rfl rfl rfl (fun (h2 : x1.toInt ≤ i.toInt) => ?_) (fun (h2 : ¬ (x1.toInt ≤ i.toInt)) => ?_)
    · --
      refine aw_ret (v := none) rfl rfl ?_
      exact ⟨rfl, J, O, by rw [← zz, show szM w = i.toInt by omega]; exact R⟩
    · --
      refine aw_step (f1 := (11, [some (.ref 65), some (.int f), some (.int i)], [(.ref 65)])) (w1 := w) rfl rfl ?_
      refine s_gr 74 J 14 rfl rfl rfl rfl rfl rfl ?_
      refine aw_step (f1 := (15, [some (.ref 65), some (.int f), some (.int i)], [(.int i), (.ref 74)])) (w1 := w) rfl rfl ?_
      refine aw_step (f1 := (16, [some (.ref 65), some (.int f), some (.int i)], [(.ref 65), (.int i), (.ref 74)])) (w1 := w) rfl rfl ?_
      refine aw_step (f1 := (17, [some (.ref 65), some (.int f), some (.int i)], [(.int i), (.ref 65), (.int i), (.ref 74)])) (w1 := w) rfl rfl ?_
      refine s_cv (z := 115) (p := 65) (as := [(.int i)]) (st1 := [(.int i), (.ref 74)]) J 20 rfl rfl rfl rfl rfl rfl rfl rfl (Nat.le_of_ble_eq_true rfl) (Nat.le_of_ble_eq_true rfl) (q_isLand i J.1) ?_
      rintro _ _ ⟨rfl, x3, rfl, x3t⟩
      refine ⟨rfl, ?_⟩
      show aw none _ 132 _ (20, [some (.ref 65), some (.int f), some (.int i)], [(.int x3), (.int i), (.ref 74)]) w
      have x3s := szM_in J.1
      refine s_if 32 23 rfl rfl rfl (fun (h4 : x3.toInt = 0) => ?_) (fun (h4 : ¬ (x3.toInt = 0)) => ?_)
      · --
        --
        refine s_l (pc1 := 33) (ls1 := [some (.ref 65), some (.int f), some (.int i)]) (st1 := [(.int i), (.ref 74)]) rfl rfl fun y5 e6 => ?_
        have e6t : y5.toInt = 0 := by rw [e6]; rfl
        --
        refine s_ls J 34 rfl rfl rfl rfl (by omega) (by omega) (by omega) (by omega) fun w7 J8 w7e => ?_
        refine aw_step (f1 := (37, [some (.ref 65), some (.int f), some (.int (i + Int32.ofInt 1))], [])) (w1 := w7) rfl rfl ?_
        obtain ⟨x9, x9e⟩ : ∃ z, z = (i + Int32.ofInt 1) := ⟨_, rfl⟩
        have x9t : x9.toInt = i.toInt + (1) := by rw [x9e]; exact n_add (y := Int32.ofInt (1)) (by show _ ≤ _ + (1 : Int); omega) (by show _ + (1 : Int) ≤ _; omega)
        rw [← x9e]
        refine aw_step (f1 := (2, [some (.ref 65), some (.int f), some (.int x9)], [])) (w1 := w7) rfl rfl ?_
        have so := rL_st J.1 (p := 74) (j := i.toInt.toNat) rfl (by omega) w7e
        have hz : n64 y5 = 0 := by rw [show y5 = 0 from Int64.toInt_inj.mp (by rw [e6t]; rfl)]; rfl
        exact ih w7 x9 (by omega) (by omega) (by omega) J8 (O.trans so.1) (by rw [x9t]; exact R.ye p2 so.2.1 so.2.2 (Or.inr ⟨by rw [← O.ld (by decide) (by decide)]; unfold ldM; omega, hz⟩))
      · --
        refine aw_step (f1 := (24, [some (.ref 65), some (.int f), some (.int i)], [(.ref 65), (.int i), (.ref 74)])) (w1 := w) rfl rfl ?_
        refine aw_step (f1 := (25, [some (.ref 65), some (.int f), some (.int i)], [(.int f), (.ref 65), (.int i), (.ref 74)])) (w1 := w) rfl rfl ?_
        refine aw_step (f1 := (26, [some (.ref 65), some (.int f), some (.int i)], [(.int i), (.int f), (.ref 65), (.int i), (.ref 74)])) (w1 := w) rfl rfl ?_
        refine s_cv (z := 131) (p := 65) (as := [(.int f), (.int i)]) (st1 := [(.int i), (.ref 74)]) J 29 rfl rfl rfl rfl rfl rfl rfl rfl (Nat.le_of_ble_eq_true rfl) (Nat.le_of_ble_eq_true rfl) (q_leadsBy f i ⟨by omega, by omega⟩ J.1) ?_
        rintro _ _ ⟨rfl, y10, rfl, y10a, y10t⟩
        refine ⟨rfl, ?_⟩
        show aw none _ 132 _ (29, [some (.ref 65), some (.int f), some (.int i)], [(.long y10), (.int i), (.ref 74)]) w
        --
        refine aw_step (f1 := (33, [some (.ref 65), some (.int f), some (.int i)], [(.long y10), (.int i), (.ref 74)])) (w1 := w) rfl rfl ?_
        --
        refine s_ls J 34 rfl rfl rfl rfl (by omega) (by omega) (by omega) (by omega) fun w11 J12 w11e => ?_
        refine aw_step (f1 := (37, [some (.ref 65), some (.int f), some (.int (i + Int32.ofInt 1))], [])) (w1 := w11) rfl rfl ?_
        obtain ⟨x13, x13e⟩ : ∃ z, z = (i + Int32.ofInt 1) := ⟨_, rfl⟩
        have x13t : x13.toInt = i.toInt + (1) := by rw [x13e]; exact n_add (y := Int32.ofInt (1)) (by show _ ≤ _ + (1 : Int); omega) (by show _ + (1 : Int) ≤ _; omega)
        rw [← x13e]
        refine aw_step (f1 := (2, [some (.ref 65), some (.int f), some (.int x13)], [])) (w1 := w11) rfl rfl ?_
        have so := rL_st J.1 (p := 74) (j := i.toInt.toNat) rfl (by omega) w11e
        exact ih w11 x13 (by omega) (by omega) (by omega) J12 (O.trans so.1) (by rw [x13t]; exact R.ye p2 so.2.1 so.2.2 (Or.inl ⟨⟨by omega, by omega, by rw [← O.rIe (p := 66) (by decide)]; omega⟩, (O.lds (by decide) (by decide) _ _ _).mp y10t⟩))
theorem q_layBy {d : Nat} {w : am_W} (f : Int32) (I : ab_inv ab_TT ab_sets w) : aw none (d + 4) 132 (fun r w1 => r = none ∧ ab_J ab_TT ab_sets ab_WR w w1 ∧ only [74] w w1 ∧ rowM w f.toInt 74 w1 (szM w)) (0, am_entry 132 [.ref 65, .int f], []) w := by
  have J : ab_J ab_TT ab_sets ab_WR w w := ⟨I, ab_fr.rf⟩
  have sz := szM_in I
  show aw none (d + 4) 132 _ (0, [some (.ref 65), some (.int f), none], []) w
  refine s_i (pc1 := 1) (ls1 := [some (.ref 65), some (.int f), none]) (st1 := []) rfl rfl fun x1 e2 => ?_
  have e2t : x1.toInt = 0 := by rw [e2]; rfl
  refine aw_step (f1 := (2, [some (.ref 65), some (.int f), some (.int x1)], [])) (w1 := w) rfl rfl ?_
  exact q_layByL f 37 w x1 (by omega) (by omega) (by omega) J only.rf (fun c hc => by omega)
theorem q_putOn {d : Nat} {w : am_W} (b : Int32) (hb : 0 ≤ b.toInt ∧ b.toInt ≤ 3) (I : ab_inv ab_TT ab_sets w) : aw none (d + 5) 133 (fun r w1 => r = none ∧ ab_J ab_TT ab_sets ab_WR w w1 ∧ only [74] w w1 ∧ rowM w (rI w 67 b.toInt.toNat) 74 w1 (szM w)) (0, am_entry 133 [.ref 65, .int b], []) w := by
  have J : ab_J ab_TT ab_sets ab_WR w w := ⟨I, ab_fr.rf⟩
  show aw none (d + 5) 133 _ (0, [some (.ref 65), some (.int b)], []) w
  refine aw_step (f1 := (1, [some (.ref 65), some (.int b)], [(.ref 65)])) (w1 := w) rfl rfl ?_
  refine aw_step (f1 := (2, [some (.ref 65), some (.int b)], [(.ref 65), (.ref 65)])) (w1 := w) rfl rfl ?_
  refine s_gr 67 J 5 rfl rfl rfl rfl rfl rfl ?_
  refine aw_step (f1 := (6, [some (.ref 65), some (.int b)], [(.int b), (.ref 67), (.ref 65)])) (w1 := w) rfl rfl ?_
  refine s_ia J 7 rfl rfl rfl rfl (by omega) (by omega) fun x1 x1a x1b x1f => ?_
  refine s_cv (z := 132) (p := 65) (as := [(.int x1)]) (st1 := []) J 10 rfl rfl rfl rfl rfl rfl rfl rfl (Nat.le_of_ble_eq_true rfl) (Nat.le_of_ble_eq_true rfl) (q_layBy x1 J.1) ?_
  rintro _ w2 ⟨rfl, J3c, w2o, w2p⟩
  have J3 := J.trans J3c
  refine ⟨am_len2 J J3c, ?_⟩
  show aw none _ 133 _ (10, [some (.ref 65), some (.int b)], []) w2
  refine aw_ret (v := none) rfl rfl ?_
  exact ⟨rfl, J3, w2o, by rw [rI_of x1f]; exact w2p⟩
theorem q_layOtherL {d : Nat} {wb : am_W} (b : Int32) (hb : 0 ≤ b.toInt ∧ b.toInt ≤ 3) : ∀ (m : Nat) (w : am_W) (i : Int32), (szM wb - i.toInt).toNat < m → 0 ≤ i.toInt → i.toInt ≤ szM wb → ab_J ab_TT ab_sets ab_WR wb w → only [75] wb w → rowM wb (rI wb 67 b.toInt.toNat) 75 w i.toInt → aw none (d + 4) 134 (fun r w1 => r = none ∧ ab_J ab_TT ab_sets ab_WR wb w1 ∧ only [75] wb w1 ∧ rowM wb (rI wb 67 b.toInt.toNat) 75 w1 (szM wb)) (2, [some (.ref 65), some (.int b), some (.int i)], []) w := by
  intro m
  induction m with
  | zero => intro w i p; omega
  | succ m ih =>
    intro w i p1 p2 p3 J O R
    have zz := O.sz (by decide)
    refine aw_step (f1 := (3, [some (.ref 65), some (.int b), some (.int i)], [(.int i)])) (w1 := w) rfl rfl ?_
    refine aw_step (f1 := (4, [some (.ref 65), some (.int b), some (.int i)], [(.ref 65), (.int i)])) (w1 := w) rfl rfl ?_
    refine s_cv (z := 113) (p := 65) (as := []) (st1 := [(.int i)]) J 7 rfl rfl rfl rfl rfl rfl rfl rfl (Nat.le_of_ble_eq_true rfl) (Nat.le_of_ble_eq_true rfl) (q_cells J.1) ?_
    rintro _ _ ⟨rfl, x1, rfl, x1t⟩
    refine ⟨rfl, ?_⟩
    show aw none _ 134 _ (7, [some (.ref 65), some (.int b), some (.int i)], [(.int x1), (.int i)]) w
    have x1s := szM_in J.1
    refine s_ic 45 10 rfl rfl rfl (fun (h2 : x1.toInt ≤ i.toInt) => ?_) (fun (h2 : ¬ (x1.toInt ≤ i.toInt)) => ?_)
    · --
      refine aw_ret (v := none) rfl rfl ?_
      exact ⟨rfl, J, O, by rw [← zz, show szM w = i.toInt by omega]; exact R⟩
    · --
      refine aw_step (f1 := (11, [some (.ref 65), some (.int b), some (.int i)], [(.ref 65)])) (w1 := w) rfl rfl ?_
      refine s_gr 75 J 14 rfl rfl rfl rfl rfl rfl ?_
      refine aw_step (f1 := (15, [some (.ref 65), some (.int b), some (.int i)], [(.int i), (.ref 75)])) (w1 := w) rfl rfl ?_
      refine aw_step (f1 := (16, [some (.ref 65), some (.int b), some (.int i)], [(.ref 65), (.int i), (.ref 75)])) (w1 := w) rfl rfl ?_
      refine aw_step (f1 := (17, [some (.ref 65), some (.int b), some (.int i)], [(.int i), (.ref 65), (.int i), (.ref 75)])) (w1 := w) rfl rfl ?_
      refine s_cv (z := 115) (p := 65) (as := [(.int i)]) (st1 := [(.int i), (.ref 75)]) J 20 rfl rfl rfl rfl rfl rfl rfl rfl (Nat.le_of_ble_eq_true rfl) (Nat.le_of_ble_eq_true rfl) (q_isLand i J.1) ?_
      rintro _ _ ⟨rfl, x3, rfl, x3t⟩
      refine ⟨rfl, ?_⟩
      show aw none _ 134 _ (20, [some (.ref 65), some (.int b), some (.int i)], [(.int x3), (.int i), (.ref 75)]) w
      have x3s := szM_in J.1
      refine s_if 37 23 rfl rfl rfl (fun (h4 : x3.toInt = 0) => ?_) (fun (h4 : ¬ (x3.toInt = 0)) => ?_)
      · --
        --
        refine s_l (pc1 := 38) (ls1 := [some (.ref 65), some (.int b), some (.int i)]) (st1 := [(.int i), (.ref 75)]) rfl rfl fun y5 e6 => ?_
        have e6t : y5.toInt = 0 := by rw [e6]; rfl
        --
        refine s_ls J 39 rfl rfl rfl rfl (by omega) (by omega) (by omega) (by omega) fun w7 J8 w7e => ?_
        refine aw_step (f1 := (42, [some (.ref 65), some (.int b), some (.int (i + Int32.ofInt 1))], [])) (w1 := w7) rfl rfl ?_
        obtain ⟨x9, x9e⟩ : ∃ z, z = (i + Int32.ofInt 1) := ⟨_, rfl⟩
        have x9t : x9.toInt = i.toInt + (1) := by rw [x9e]; exact n_add (y := Int32.ofInt (1)) (by show _ ≤ _ + (1 : Int); omega) (by show _ + (1 : Int) ≤ _; omega)
        rw [← x9e]
        refine aw_step (f1 := (2, [some (.ref 65), some (.int b), some (.int x9)], [])) (w1 := w7) rfl rfl ?_
        have so := rL_st J.1 (p := 75) (j := i.toInt.toNat) rfl (by omega) w7e
        have hz : n64 y5 = 0 := by rw [show y5 = 0 from Int64.toInt_inj.mp (by rw [e6t]; rfl)]; rfl
        exact ih w7 x9 (by omega) (by omega) (by omega) J8 (O.trans so.1) (by rw [x9t]; exact R.ye p2 so.2.1 so.2.2 (Or.inr ⟨by rw [← O.ld (by decide) (by decide)]; unfold ldM; omega, hz⟩))
      · --
        refine aw_step (f1 := (24, [some (.ref 65), some (.int b), some (.int i)], [(.ref 65), (.int i), (.ref 75)])) (w1 := w) rfl rfl ?_
        refine aw_step (f1 := (25, [some (.ref 65), some (.int b), some (.int i)], [(.ref 65), (.ref 65), (.int i), (.ref 75)])) (w1 := w) rfl rfl ?_
        refine s_gr 67 J 28 rfl rfl rfl rfl rfl rfl ?_
        refine aw_step (f1 := (29, [some (.ref 65), some (.int b), some (.int i)], [(.int b), (.ref 67), (.ref 65), (.int i), (.ref 75)])) (w1 := w) rfl rfl ?_
        refine s_ia J 30 rfl rfl rfl rfl (by omega) (by omega) fun x10 x10a x10b x10f => ?_
        --
        refine aw_step (f1 := (31, [some (.ref 65), some (.int b), some (.int i)], [(.int i), (.int x10), (.ref 65), (.int i), (.ref 75)])) (w1 := w) rfl rfl ?_
        refine s_cv (z := 131) (p := 65) (as := [(.int x10), (.int i)]) (st1 := [(.int i), (.ref 75)]) J 34 rfl rfl rfl rfl rfl rfl rfl rfl (Nat.le_of_ble_eq_true rfl) (Nat.le_of_ble_eq_true rfl) (q_leadsBy x10 i ⟨by omega, by omega⟩ J.1) ?_
        rintro _ _ ⟨rfl, y11, rfl, y11a, y11t⟩
        refine ⟨rfl, ?_⟩
        show aw none _ 134 _ (34, [some (.ref 65), some (.int b), some (.int i)], [(.long y11), (.int i), (.ref 75)]) w
        have y11t2 := y11t
        rw [← rI_of x10f, O.rIe (by decide)] at y11t2
        refine aw_step (f1 := (38, [some (.ref 65), some (.int b), some (.int i)], [(.long y11), (.int i), (.ref 75)])) (w1 := w) rfl rfl ?_
        --
        refine s_ls J 39 rfl rfl rfl rfl (by omega) (by omega) (by omega) (by omega) fun w12 J13 w12e => ?_
        refine aw_step (f1 := (42, [some (.ref 65), some (.int b), some (.int (i + Int32.ofInt 1))], [])) (w1 := w12) rfl rfl ?_
        obtain ⟨x14, x14e⟩ : ∃ z, z = (i + Int32.ofInt 1) := ⟨_, rfl⟩
        have x14t : x14.toInt = i.toInt + (1) := by rw [x14e]; exact n_add (y := Int32.ofInt (1)) (by show _ ≤ _ + (1 : Int); omega) (by show _ + (1 : Int) ≤ _; omega)
        rw [← x14e]
        refine aw_step (f1 := (2, [some (.ref 65), some (.int b), some (.int x14)], [])) (w1 := w12) rfl rfl ?_
        have so := rL_st J.1 (p := 75) (j := i.toInt.toNat) rfl (by omega) w12e
        exact ih w12 x14 (by omega) (by omega) (by omega) J13 (O.trans so.1) (by rw [x14t]; exact R.ye p2 so.2.1 so.2.2 (Or.inl ⟨⟨by omega, by omega, by rw [← O.rIe (p := 66) (by decide)]; omega⟩, (O.lds (by decide) (by decide) _ _ _).mp y11t2⟩))
theorem q_layOther {d : Nat} {w : am_W} (b : Int32) (hb : 0 ≤ b.toInt ∧ b.toInt ≤ 3) (I : ab_inv ab_TT ab_sets w) : aw none (d + 4) 134 (fun r w1 => r = none ∧ ab_J ab_TT ab_sets ab_WR w w1 ∧ only [75] w w1 ∧ rowM w (rI w 67 b.toInt.toNat) 75 w1 (szM w)) (0, am_entry 134 [.ref 65, .int b], []) w := by
  have J : ab_J ab_TT ab_sets ab_WR w w := ⟨I, ab_fr.rf⟩
  have sz := szM_in I
  show aw none (d + 4) 134 _ (0, [some (.ref 65), some (.int b), none], []) w
  refine s_i (pc1 := 1) (ls1 := [some (.ref 65), some (.int b), none]) (st1 := []) rfl rfl fun x1 e2 => ?_
  have e2t : x1.toInt = 0 := by rw [e2]; rfl
  refine aw_step (f1 := (2, [some (.ref 65), some (.int b), some (.int x1)], [])) (w1 := w) rfl rfl ?_
  exact q_layOtherL b hb 37 w x1 (by omega) (by omega) (by omega) J only.rf (fun c hc => by omega)
/-- a method is safe: it answers an int, and keeps the typed world but for what may be written -/
noncomputable def QS (w : am_W) : Option Value → am_W → Prop := fun r w1 => ab_J ab_TT ab_sets ab_WR w w1 ∧ ∃ b : Int32, r = some (.int b)
theorem q_farN {d : Nat} {Q : Option Value → am_W → Prop} {w00 w : am_W} (J : ab_J ab_TT ab_sets ab_WR w00 w) (bo f t i c k : Int32) (hc : 0 ≤ c.toInt ∧ c.toInt < 36) (b : Nat) (h36 : b < 36) (hb1 : bt (rL w 74 c.toInt.toNat) b = 1) (hb2 : rI w 77 b = rI w 77 c.toInt.toNat - 1) (K : ∀ n : Int32, 0 ≤ n.toInt → n.toInt ≤ b → rI w 77 n.toInt.toNat = rI w 77 c.toInt.toNat - 1 → bt (rL w 74 c.toInt.toNat) n.toInt.toNat = 1 → aw none (d + 1) 144 Q (140, [some (.ref 65), some (.int bo), some (.int f), some (.int t), some (.int i), some (.int c), some (.int k), some (.int n)], []) w) : ∀ (m : Nat) (n : Int32), b - n.toInt.toNat < m → 0 ≤ n.toInt → n.toInt ≤ b → aw none (d + 1) 144 Q (100, [some (.ref 65), some (.int bo), some (.int f), some (.int t), some (.int i), some (.int c), some (.int k), some (.int n)], []) w := by
  intro m
  induction m with
  | zero => intro n p; omega
  | succ m ih =>
    intro n p1 p2 p3
    refine aw_step (f1 := (101, [some (.ref 65), some (.int bo), some (.int f), some (.int t), some (.int i), some (.int c), some (.int k), some (.int n)], [(.ref 65)])) (w1 := w) rfl rfl ?_
    refine s_gr 74 J 104 rfl rfl rfl rfl rfl rfl ?_
    refine aw_step (f1 := (106, [some (.ref 65), some (.int bo), some (.int f), some (.int t), some (.int i), some (.int c), some (.int k), some (.int n)], [(.int c), (.ref 74)])) (w1 := w) rfl rfl ?_
    refine s_la J 107 rfl rfl rfl (by omega) (by omega) fun y1 y1a y1b y1f => ?_
    have hrl := rL_of y1f
    rw [hrl] at hb1
    refine aw_step (f1 := (109, [some (.ref 65), some (.int bo), some (.int f), some (.int t), some (.int i), some (.int c), some (.int k), some (.int n)], [(.int n), (.long y1)])) (w1 := w) rfl rfl ?_
    refine s_cs (z := 110) (as := [(.long y1), (.int n)]) (st1 := []) 112 rfl rfl rfl rfl rfl rfl (Nat.le_of_ble_eq_true rfl) (Nat.le_of_ble_eq_true rfl) (Nat.le_of_ble_eq_true rfl) (q_has y1 n (by omega) (by omega)) ?_
    rintro _ _ ⟨rfl, x2, rfl, x2t⟩
    refine ⟨rfl, ?_⟩
    show aw none _ 144 _ (112, [some (.ref 65), some (.int bo), some (.int f), some (.int t), some (.int i), some (.int c), some (.int k), some (.int n)], [(.int x2)]) w
    have x2l := bt_le (n64 y1) n.toInt.toNat
    refine s_if 134 115 rfl rfl rfl (fun (h3 : x2.toInt = 0) => ?_) (fun (h3 : ¬ (x2.toInt = 0)) => ?_)
    · --
      refine aw_step (f1 := (137, [some (.ref 65), some (.int bo), some (.int f), some (.int t), some (.int i), some (.int c), some (.int k), some (.int (n + Int32.ofInt 1))], [])) (w1 := w) rfl rfl ?_
      obtain ⟨x4, x4e⟩ : ∃ z, z = (n + Int32.ofInt 1) := ⟨_, rfl⟩
      have x4t : x4.toInt = n.toInt + (1) := by rw [x4e]; exact n_add (y := Int32.ofInt (1)) (by show _ ≤ _ + (1 : Int); omega) (by show _ + (1 : Int) ≤ _; omega)
      rw [← x4e]
      refine aw_step (f1 := (100, [some (.ref 65), some (.int bo), some (.int f), some (.int t), some (.int i), some (.int c), some (.int k), some (.int x4)], [])) (w1 := w) rfl rfl ?_
      have ne : n.toInt.toNat ≠ b := by
        intro e
        rw [← e] at hb1 hb2
        rw [hrl] at *
        omega
      exact ih x4 (by omega) (by omega) (by omega)
    · --
      refine aw_step (f1 := (116, [some (.ref 65), some (.int bo), some (.int f), some (.int t), some (.int i), some (.int c), some (.int k), some (.int n)], [(.ref 65)])) (w1 := w) rfl rfl ?_
      refine s_gr 77 J 119 rfl rfl rfl rfl rfl rfl ?_
      refine aw_step (f1 := (121, [some (.ref 65), some (.int bo), some (.int f), some (.int t), some (.int i), some (.int c), some (.int k), some (.int n)], [(.int n), (.ref 77)])) (w1 := w) rfl rfl ?_
      refine s_ia J 122 rfl rfl rfl rfl (by omega) (by omega) fun x5 x5a x5b x5f => ?_
      --
      refine aw_step (f1 := (123, [some (.ref 65), some (.int bo), some (.int f), some (.int t), some (.int i), some (.int c), some (.int k), some (.int n)], [(.ref 65), (.int x5)])) (w1 := w) rfl rfl ?_
      refine s_gr 77 J 126 rfl rfl rfl rfl rfl rfl ?_
      refine aw_step (f1 := (128, [some (.ref 65), some (.int bo), some (.int f), some (.int t), some (.int i), some (.int c), some (.int k), some (.int n)], [(.int c), (.ref 77), (.int x5)])) (w1 := w) rfl rfl ?_
      refine s_ia J 129 rfl rfl rfl rfl (by omega) (by omega) fun x6 x6a x6b x6f => ?_
      --
      refine s_i (pc1 := 130) (ls1 := [some (.ref 65), some (.int bo), some (.int f), some (.int t), some (.int i), some (.int c), some (.int k), some (.int n)]) (st1 := [(.int x6), (.int x5)]) rfl rfl fun x7 e8 => ?_
      have e8t : x7.toInt = 1 := by rw [e8]; rfl
      refine s_i (pc1 := 131) (ls1 := [some (.ref 65), some (.int bo), some (.int f), some (.int t), some (.int i), some (.int c), some (.int k), some (.int n)]) (st1 := [(.int x5)]) rfl rfl fun x9 e10 => ?_
      have e10 : x9 = x6 - x7 := e10
      have e10t : x9.toInt = x6.toInt - x7.toInt := by rw [e10]; exact n_sub (by omega) (by omega)
      have q1 := rI_of x5f
      have q2 := rI_of x6f
      refine s_ic 140 134 rfl rfl rfl (fun (h11 : x5.toInt = x9.toInt) => ?_) (fun (h11 : ¬ (x5.toInt = x9.toInt)) => ?_)
      · --
        exact K _ (by omega) (by omega) (by have := rI_of x5f; have := rI_of x6f; omega) (by rw [hrl]; omega)
      · --
        refine aw_step (f1 := (137, [some (.ref 65), some (.int bo), some (.int f), some (.int t), some (.int i), some (.int c), some (.int k), some (.int (n + Int32.ofInt 1))], [])) (w1 := w) rfl rfl ?_
        obtain ⟨x12, x12e⟩ : ∃ z, z = (n + Int32.ofInt 1) := ⟨_, rfl⟩
        have x12t : x12.toInt = n.toInt + (1) := by rw [x12e]; exact n_add (y := Int32.ofInt (1)) (by show _ ≤ _ + (1 : Int); omega) (by show _ + (1 : Int) ≤ _; omega)
        rw [← x12e]
        refine aw_step (f1 := (100, [some (.ref 65), some (.int bo), some (.int f), some (.int t), some (.int i), some (.int c), some (.int k), some (.int x12)], [])) (w1 := w) rfl rfl ?_
        have ne : n.toInt.toNat ≠ b := by
          intro e
          rw [← e] at hb1 hb2
          rw [hrl] at *
          omega
        exact ih x12 (by omega) (by omega) (by omega)
theorem q_farW {d : Nat} {w00 w : am_W} (J : ab_J ab_TT ab_sets ab_WR w00 w) (bo f t i : Int32) (P : fPost (szM w) t.toInt.toNat (rL w 74) (rI w 77)) (S : ∀ a b : Nat, (a : Int) < szM w → (b : Int) < szM w → bt (rL w 74 a) b = 1 → bt (rL w 74 b) a = 1) (hf : rI w 77 f.toInt.toNat < 100000) (hi : i.toInt ≤ rI w 77 f.toInt.toNat - 1) : ∀ (m : Nat) (k c : Int32) (o7 : Option Value), (i.toInt + 1 - k.toInt).toNat < m → 0 ≤ k.toInt → k.toInt ≤ i.toInt + 1 → 0 ≤ c.toInt → c.toInt < szM w → rI w 77 c.toInt.toNat = rI w 77 f.toInt.toNat - k.toInt → aw none (d + 1) 144 (QS w00) (90, [some (.ref 65), some (.int bo), some (.int f), some (.int t), some (.int i), some (.int c), some (.int k), o7], []) w := by
  have sz := szM_in J.1
  intro m
  induction m with
  | zero => intro k c o7 p; omega
  | succ m ih =>
    intro k c o7 p1 p2 p3 p4 p5 p6
    refine aw_step (f1 := (92, [some (.ref 65), some (.int bo), some (.int f), some (.int t), some (.int i), some (.int c), some (.int k), o7], [(.int k)])) (w1 := w) rfl rfl ?_
    refine aw_step (f1 := (94, [some (.ref 65), some (.int bo), some (.int f), some (.int t), some (.int i), some (.int c), some (.int k), o7], [(.int i), (.int k)])) (w1 := w) rfl rfl ?_
    refine s_ic 150 97 rfl rfl rfl (fun (h1 : i.toInt < k.toInt) => ?_) (fun (h1 : ¬ (i.toInt < k.toInt)) => ?_)
    · --
      refine aw_step (f1 := (152, [some (.ref 65), some (.int bo), some (.int f), some (.int t), some (.int i), some (.int c), some (.int k), o7], [(.int c)])) (w1 := w) rfl rfl ?_
      refine aw_ret (v := some (.int c)) rfl rfl ?_
      exact ⟨J, c, rfl⟩
    · --
      refine s_i (pc1 := 98) (ls1 := [some (.ref 65), some (.int bo), some (.int f), some (.int t), some (.int i), some (.int c), some (.int k), o7]) (st1 := []) rfl rfl fun x2 e3 => ?_
      have e3t : x2.toInt = 0 := by rw [e3]; rfl
      refine aw_step (f1 := (100, [some (.ref 65), some (.int bo), some (.int f), some (.int t), some (.int i), some (.int c), some (.int k), some (.int x2)], [])) (w1 := w) rfl rfl ?_
      have cf := P.1 c.toInt.toNat (by omega)
      obtain ⟨b, hb, hr, hl⟩ : ∃ b : Nat, (b : Int) < szM w ∧ rI w 77 b = rI w 77 c.toInt.toNat - 1 ∧ bt (rL w 74 b) c.toInt.toNat = 1 := by
        rcases P.2.2.1 c.toInt.toNat (by omega) (by omega) with q | q
        · omega
        · exact q
      refine q_farN J bo f t i c k ⟨by omega, by omega⟩ b (by omega) (S b c.toInt.toNat hb (by omega) hl) hr (fun n n1 n2 n3 n4 => ?_) (b + 1) x2 (by omega) (by omega) (by omega)
      refine aw_step (f1 := (142, [some (.ref 65), some (.int bo), some (.int f), some (.int t), some (.int i), some (.int c), some (.int k), some (.int n)], [(.int n)])) (w1 := w) rfl rfl ?_
      refine aw_step (f1 := (144, [some (.ref 65), some (.int bo), some (.int f), some (.int t), some (.int i), some (.int n), some (.int k), some (.int n)], [])) (w1 := w) rfl rfl ?_
      refine aw_step (f1 := (147, [some (.ref 65), some (.int bo), some (.int f), some (.int t), some (.int i), some (.int n), some (.int (k + Int32.ofInt 1)), some (.int n)], [])) (w1 := w) rfl rfl ?_
      obtain ⟨zx1, zx1e⟩ : ∃ z, z = (k + Int32.ofInt 1) := ⟨_, rfl⟩
      have zx1t : zx1.toInt = k.toInt + (1) := by rw [zx1e]; exact n_add (y := Int32.ofInt (1)) (by show _ ≤ _ + (1 : Int); omega) (by show _ + (1 : Int) ≤ _; omega)
      rw [← zx1e]
      refine aw_step (f1 := (90, [some (.ref 65), some (.int bo), some (.int f), some (.int t), some (.int i), some (.int n), some (.int zx1), some (.int n)], [])) (w1 := w) rfl rfl ?_
      exact ih zx1 n _ (by omega) (by omega) (by omega) (by omega) (by omega) (by omega)
theorem q_far {d : Nat} {w : am_W} (bo f t i : Int32) (I : ab_inv ab_TT ab_sets w) : aw none (d + 6) 144 (QS w) (0, am_entry 144 [.ref 65, .int bo, .int f, .int t, .int i], []) w := by
  have J : ab_J ab_TT ab_sets ab_WR w w := ⟨I, ab_fr.rf⟩
  have sz := szM_in I
  show aw none (d + 6) 144 _ (0, [some (.ref 65), some (.int bo), some (.int f), some (.int t), some (.int i), none, none, none], []) w
  refine aw_step (f1 := (1, [some (.ref 65), some (.int bo), some (.int f), some (.int t), some (.int i), none, none, none], [(.ref 65)])) (w1 := w) rfl rfl ?_
  refine aw_step (f1 := (2, [some (.ref 65), some (.int bo), some (.int f), some (.int t), some (.int i), none, none, none], [(.int bo), (.ref 65)])) (w1 := w) rfl rfl ?_
  refine aw_step (f1 := (3, [some (.ref 65), some (.int bo), some (.int f), some (.int t), some (.int i), none, none, none], [(.int f), (.int bo), (.ref 65)])) (w1 := w) rfl rfl ?_
  refine aw_step (f1 := (4, [some (.ref 65), some (.int bo), some (.int f), some (.int t), some (.int i), none, none, none], [(.int t), (.int f), (.int bo), (.ref 65)])) (w1 := w) rfl rfl ?_
  refine s_cv (z := 143) (p := 65) (as := [(.int bo), (.int f), (.int t)]) (st1 := []) J 7 rfl rfl rfl rfl rfl rfl rfl rfl (Nat.le_of_ble_eq_true rfl) (Nat.le_of_ble_eq_true rfl) (q_isAsked bo f t J.1) ?_
  rintro _ _ ⟨rfl, x1, rfl, x1t⟩
  refine ⟨rfl, ?_⟩
  show aw none _ 144 _ (7, [some (.ref 65), some (.int bo), some (.int f), some (.int t), some (.int i), none, none, none], [(.int x1)]) w
  have x1s := szM_in J.1
  refine s_if 12 10 rfl rfl rfl (fun (h2 : ¬ x1.toInt = 0) => ?_) (fun (h2 : ¬ (¬ x1.toInt = 0)) => ?_)
  · --
    refine aw_step (f1 := (13, [some (.ref 65), some (.int bo), some (.int f), some (.int t), some (.int i), none, none, none], [(.ref 65)])) (w1 := w) rfl rfl ?_
    refine aw_step (f1 := (14, [some (.ref 65), some (.int bo), some (.int f), some (.int t), some (.int i), none, none, none], [(.int bo), (.ref 65)])) (w1 := w) rfl rfl ?_
    refine s_cv (z := 133) (p := 65) (as := [(.int bo)]) (st1 := []) J 17 rfl rfl rfl rfl rfl rfl rfl rfl (Nat.le_of_ble_eq_true rfl) (Nat.le_of_ble_eq_true rfl) (q_putOn bo ⟨by omega, by omega⟩ J.1) ?_
    rintro _ w3 ⟨rfl, J4c, w3o, w3p⟩
    have J4 := J.trans J4c
    refine ⟨am_len2 J J4c, ?_⟩
    show aw none _ 144 _ (17, [some (.ref 65), some (.int bo), some (.int f), some (.int t), some (.int i), none, none, none], []) w3
    --
    refine aw_step (f1 := (18, [some (.ref 65), some (.int bo), some (.int f), some (.int t), some (.int i), none, none, none], [(.ref 65)])) (w1 := w3) rfl rfl ?_
    refine aw_step (f1 := (19, [some (.ref 65), some (.int bo), some (.int f), some (.int t), some (.int i), none, none, none], [(.int t), (.ref 65)])) (w1 := w3) rfl rfl ?_
    refine s_cv (z := 142) (p := 65) (as := [(.int t)]) (st1 := []) J4 22 rfl rfl rfl rfl rfl rfl rfl rfl (Nat.le_of_ble_eq_true rfl) (Nat.le_of_ble_eq_true rfl) (q_findFar t ⟨by omega, by omega⟩ J4.1) ?_
    rintro _ w5 ⟨rfl, J6c, w5o, w5p⟩
    have J6 := J4.trans J6c
    refine ⟨am_len2 J4 J6c, ?_⟩
    show aw none _ 144 _ (22, [some (.ref 65), some (.int bo), some (.int f), some (.int t), some (.int i), none, none, none], []) w5
    refine aw_step (f1 := (23, [some (.ref 65), some (.int bo), some (.int f), some (.int t), some (.int i), none, none, none], [(.ref 65)])) (w1 := w5) rfl rfl ?_
    refine s_gr 77 J6 26 rfl rfl rfl rfl rfl rfl ?_
    refine aw_step (f1 := (27, [some (.ref 65), some (.int bo), some (.int f), some (.int t), some (.int i), none, none, none], [(.int f), (.ref 77)])) (w1 := w5) rfl rfl ?_
    refine s_ia J6 28 rfl rfl rfl rfl (by omega) (by omega) fun x7 x7a x7b x7f => ?_
    have hfr := rI_of x7f
    refine s_i (pc1 := 30) (ls1 := [some (.ref 65), some (.int bo), some (.int f), some (.int t), some (.int i), none, none, none]) (st1 := [(.int x7)]) rfl rfl fun x8 e9 => ?_
    have e9t : x8.toInt = 100000 := by rw [e9]; rfl
    refine s_ic 39 33 rfl rfl rfl (fun (h10 : x7.toInt = x8.toInt) => ?_) (fun (h10 : ¬ (x7.toInt = x8.toInt)) => ?_)
    · --
      refine aw_step (f1 := (40, [some (.ref 65), some (.int bo), some (.int f), some (.int t), some (.int i), none, none, none], [(.ref 65)])) (w1 := w5) rfl rfl ?_
      refine s_gr 77 J6 43 rfl rfl rfl rfl rfl rfl ?_
      refine aw_step (f1 := (44, [some (.ref 65), some (.int bo), some (.int f), some (.int t), some (.int i), none, none, none], [(.int f), (.ref 77)])) (w1 := w5) rfl rfl ?_
      refine s_ia J6 45 rfl rfl rfl rfl (by omega) (by omega) fun x11 x11a x11b x11f => ?_
      refine s_i (pc1 := 47) (ls1 := [some (.ref 65), some (.int bo), some (.int f), some (.int t), some (.int i), none, none, none]) (st1 := [(.int x11)]) rfl rfl fun x12 e13 => ?_
      have e13t : x12.toInt = 100000 := by rw [e13]; rfl
      refine s_ic 55 50 rfl rfl rfl (fun (h14 : ¬ x11.toInt = x12.toInt) => ?_) (fun (h14 : ¬ (¬ x11.toInt = x12.toInt)) => ?_)
      · --
        refine aw_step (f1 := (56, [some (.ref 65), some (.int bo), some (.int f), some (.int t), some (.int i), none, none, none], [(.ref 65)])) (w1 := w5) rfl rfl ?_
        refine s_gr 77 J6 59 rfl rfl rfl rfl rfl rfl ?_
        refine aw_step (f1 := (60, [some (.ref 65), some (.int bo), some (.int f), some (.int t), some (.int i), none, none, none], [(.int f), (.ref 77)])) (w1 := w5) rfl rfl ?_
        refine s_ia J6 61 rfl rfl rfl rfl (by omega) (by omega) fun x15 x15a x15b x15f => ?_
        refine aw_ret (v := some (.int x15)) rfl rfl ?_
        exact ⟨J6, x15, rfl⟩
      · --
        refine s_i (pc1 := 52) (ls1 := [some (.ref 65), some (.int bo), some (.int f), some (.int t), some (.int i), none, none, none]) (st1 := []) rfl rfl fun x16 e17 => ?_
        have e17t : x16.toInt = -6 := by rw [e17]; rfl
        refine aw_step (f1 := (61, [some (.ref 65), some (.int bo), some (.int f), some (.int t), some (.int i), none, none, none], [(.int x16)])) (w1 := w5) rfl rfl ?_
        refine aw_ret (v := some (.int x16)) rfl rfl ?_
        exact ⟨J6, x16, rfl⟩
    · --
      refine aw_step (f1 := (35, [some (.ref 65), some (.int bo), some (.int f), some (.int t), some (.int i), none, none, none], [(.int i)])) (w1 := w5) rfl rfl ?_
      refine s_i (pc1 := 36) (ls1 := [some (.ref 65), some (.int bo), some (.int f), some (.int t), some (.int i), none, none, none]) (st1 := [(.int i)]) rfl rfl fun x18 e19 => ?_
      have e19t : x18.toInt = -1 := by rw [e19]; rfl
      refine s_ic 62 39 rfl rfl rfl (fun (h20 : ¬ i.toInt = x18.toInt) => ?_) (fun (h20 : ¬ (¬ i.toInt = x18.toInt)) => ?_)
      · --
        refine aw_step (f1 := (64, [some (.ref 65), some (.int bo), some (.int f), some (.int t), some (.int i), none, none, none], [(.int i)])) (w1 := w5) rfl rfl ?_
        refine s_l (pc1 := 65) (ls1 := [some (.ref 65), some (.int bo), some (.int f), some (.int t), some (.int i), none, none, none]) (st1 := []) rfl rfl fun y21 e22 => ?_
        have e22t : y21.toInt = i.toInt := by rw [e22]; exact Int32.toInt_toInt64 i
        refine s_l (pc1 := 66) (ls1 := [some (.ref 65), some (.int bo), some (.int f), some (.int t), some (.int i), none, none, none]) (st1 := [(.long y21)]) rfl rfl fun y23 e24 => ?_
        have e24t : y23.toInt = 0 := by rw [e24]; rfl
        refine aw_step (f1 := (67, [some (.ref 65), some (.int bo), some (.int f), some (.int t), some (.int i), none, none, none], [(.ref 65), (.long y23), (.long y21)])) (w1 := w5) rfl rfl ?_
        refine s_gr 77 J6 70 rfl rfl rfl rfl rfl rfl ?_
        refine aw_step (f1 := (71, [some (.ref 65), some (.int bo), some (.int f), some (.int t), some (.int i), none, none, none], [(.int f), (.ref 77), (.long y23), (.long y21)])) (w1 := w5) rfl rfl ?_
        refine s_ia J6 72 rfl rfl rfl rfl (by omega) (by omega) fun x25 x25a x25b x25f => ?_
        have hfr2 := rI_of x25f
        refine s_i (pc1 := 73) (ls1 := [some (.ref 65), some (.int bo), some (.int f), some (.int t), some (.int i), none, none, none]) (st1 := [(.int x25), (.long y23), (.long y21)]) rfl rfl fun x26 e27 => ?_
        have e27t : x26.toInt = 1 := by rw [e27]; rfl
        refine s_i (pc1 := 74) (ls1 := [some (.ref 65), some (.int bo), some (.int f), some (.int t), some (.int i), none, none, none]) (st1 := [(.long y23), (.long y21)]) rfl rfl fun x28 e29 => ?_
        have e29 : x28 = x25 - x26 := e29
        have e29t : x28.toInt = x25.toInt - x26.toInt := by rw [e29]; exact n_sub (by omega) (by omega)
        refine s_l (pc1 := 75) (ls1 := [some (.ref 65), some (.int bo), some (.int f), some (.int t), some (.int i), none, none, none]) (st1 := [(.long y23), (.long y21)]) rfl rfl fun y30 e31 => ?_
        have e31t : y30.toInt = x28.toInt := by rw [e31]; exact Int32.toInt_toInt64 x28
        refine s_cs (z := 108) (as := [(.long y21), (.long y23), (.long y30)]) (st1 := []) 78 rfl rfl rfl rfl rfl rfl (Nat.le_of_ble_eq_true rfl) (Nat.le_of_ble_eq_true rfl) (Nat.le_of_ble_eq_true rfl) (q_in2 y21 y23 y30) ?_
        rintro _ _ ⟨rfl, x32, rfl, x32t⟩
        refine ⟨rfl, ?_⟩
        show aw none _ 144 _ (78, [some (.ref 65), some (.int bo), some (.int f), some (.int t), some (.int i), none, none, none], [(.int x32)]) w5
        refine s_if 84 81 rfl rfl rfl (fun (h33 : ¬ x32.toInt = 0) => ?_) (fun (h33 : ¬ (¬ x32.toInt = 0)) => ?_)
        · --
          refine aw_step (f1 := (85, [some (.ref 65), some (.int bo), some (.int f), some (.int t), some (.int i), none, none, none], [(.int f)])) (w1 := w5) rfl rfl ?_
          refine aw_step (f1 := (87, [some (.ref 65), some (.int bo), some (.int f), some (.int t), some (.int i), some (.int f), none, none], [])) (w1 := w5) rfl rfl ?_
          refine s_i (pc1 := 88) (ls1 := [some (.ref 65), some (.int bo), some (.int f), some (.int t), some (.int i), some (.int f), none, none]) (st1 := []) rfl rfl fun x34 e35 => ?_
          have e35t : x34.toInt = 0 := by rw [e35]; rfl
          refine aw_step (f1 := (90, [some (.ref 65), some (.int bo), some (.int f), some (.int t), some (.int i), some (.int f), some (.int x34), none], [])) (w1 := w5) rfl rfl ?_
          have lo := w5o
          have zz := lo.sz (by decide)
          have pz := w3o.sz (by decide)
          have P := w5p
          rw [← zz, show rL w3 74 = rL w5 74 from by funext b; exact (lo.rLe (by decide)).symm] at P
          have R := w3p
          exact q_farW J6 bo f t i P (fun a b ha hb q => by
            rw [lo.rLe (by decide)] at q ⊢
            exact R.sym (by omega) (by omega) q) (by omega) (by omega) (i.toInt.toNat + 2) x34 f none (by omega) (by omega) (by omega) (by omega) (by omega) (by omega)
        · --
          refine s_i (pc1 := 83) (ls1 := [some (.ref 65), some (.int bo), some (.int f), some (.int t), some (.int i), none, none, none]) (st1 := []) rfl rfl fun x36 e37 => ?_
          have e37t : x36.toInt = -6 := by rw [e37]; rfl
          refine aw_ret (v := some (.int x36)) rfl rfl ?_
          exact ⟨J6, x36, rfl⟩
      · --
        refine aw_step (f1 := (40, [some (.ref 65), some (.int bo), some (.int f), some (.int t), some (.int i), none, none, none], [(.ref 65)])) (w1 := w5) rfl rfl ?_
        refine s_gr 77 J6 43 rfl rfl rfl rfl rfl rfl ?_
        refine aw_step (f1 := (44, [some (.ref 65), some (.int bo), some (.int f), some (.int t), some (.int i), none, none, none], [(.int f), (.ref 77)])) (w1 := w5) rfl rfl ?_
        refine s_ia J6 45 rfl rfl rfl rfl (by omega) (by omega) fun x38 x38a x38b x38f => ?_
        refine s_i (pc1 := 47) (ls1 := [some (.ref 65), some (.int bo), some (.int f), some (.int t), some (.int i), none, none, none]) (st1 := [(.int x38)]) rfl rfl fun x39 e40 => ?_
        have e40t : x39.toInt = 100000 := by rw [e40]; rfl
        refine s_ic 55 50 rfl rfl rfl (fun (h41 : ¬ x38.toInt = x39.toInt) => ?_) (fun (h41 : ¬ (¬ x38.toInt = x39.toInt)) => ?_)
        · --
          refine aw_step (f1 := (56, [some (.ref 65), some (.int bo), some (.int f), some (.int t), some (.int i), none, none, none], [(.ref 65)])) (w1 := w5) rfl rfl ?_
          refine s_gr 77 J6 59 rfl rfl rfl rfl rfl rfl ?_
          refine aw_step (f1 := (60, [some (.ref 65), some (.int bo), some (.int f), some (.int t), some (.int i), none, none, none], [(.int f), (.ref 77)])) (w1 := w5) rfl rfl ?_
          refine s_ia J6 61 rfl rfl rfl rfl (by omega) (by omega) fun x42 x42a x42b x42f => ?_
          refine aw_ret (v := some (.int x42)) rfl rfl ?_
          exact ⟨J6, x42, rfl⟩
        · --
          refine s_i (pc1 := 52) (ls1 := [some (.ref 65), some (.int bo), some (.int f), some (.int t), some (.int i), none, none, none]) (st1 := []) rfl rfl fun x43 e44 => ?_
          have e44t : x43.toInt = -6 := by rw [e44]; rfl
          refine aw_step (f1 := (61, [some (.ref 65), some (.int bo), some (.int f), some (.int t), some (.int i), none, none, none], [(.int x43)])) (w1 := w5) rfl rfl ?_
          refine aw_ret (v := some (.int x43)) rfl rfl ?_
          exact ⟨J6, x43, rfl⟩
  · --
    refine s_i (pc1 := 11) (ls1 := [some (.ref 65), some (.int bo), some (.int f), some (.int t), some (.int i), none, none, none]) (st1 := []) rfl rfl fun x45 e46 => ?_
    have e46t : x45.toInt = -1 := by rw [e46]; rfl
    refine aw_ret (v := some (.int x45)) rfl rfl ?_
    exact ⟨J, x45, rfl⟩
