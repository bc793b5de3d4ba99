/-! ===== after, ways, chance of the model ===== -/
theorem f_w3 {d : Nat} {w : am_W} {Q : Option Value → am_W → Prop} (f n k e : Int32) (he : 0 ≤ e.toInt ∧ e.toInt < 36) (J : ab_J ab_TT ab_sets ab_WR w w) (hx : ∀ (s : Int64) (c : Int32), n64 s = smT (fun c => bt (rL w 74 c) e.toInt.toNat * rL w 84 c) (szM w).toNat % 18446744073709551616 → aw none (d + 1) 166 Q (101, [some (.ref 65), some (.int f), some (.int n), some (.int k), some (.int e), some (.long s), none, some (.int c)], []) w) : ∀ (m : Nat) (s : Int64) (c : Int32), (36 - c.toInt).toNat < m → 0 ≤ c.toInt → c.toInt ≤ szM w → n64 s = smT (fun c => bt (rL w 74 c) e.toInt.toNat * rL w 84 c) c.toInt.toNat % 18446744073709551616 → aw none (d + 1) 166 Q (55, [some (.ref 65), some (.int f), some (.int n), some (.int k), some (.int e), some (.long s), none, some (.int c)], []) w := by
  have szm := szM_in J.1
  intro m
  induction m with
  | zero => intro s c p; omega
  | succ m ih =>
    intro s c p1 p2 p3 F
    refine aw_step (f1 := (57, [some (.ref 65), some (.int f), some (.int n), some (.int k), some (.int e), some (.long s), none, some (.int c)], [(.int c)])) (w1 := w) rfl rfl ?_
    refine aw_step (f1 := (58, [some (.ref 65), some (.int f), some (.int n), some (.int k), some (.int e), some (.long s), none, some (.int c)], [(.ref 65), (.int c)])) (w1 := w) rfl rfl ?_
    refine s_cv (z := 113) (p := 65) (as := []) (st1 := [(.int c)]) J 61 rfl rfl rfl rfl rfl rfl rfl rfl (Nat.le_of_ble_eq_true rfl) (Nat.le_of_ble_eq_true rfl) (q_cells J.1) ?_
    rintro _ _ ⟨rfl, x1, rfl, x1t⟩
    refine ⟨rfl, ?_⟩
    show aw none _ 166 _ (61, [some (.ref 65), some (.int f), some (.int n), some (.int k), some (.int e), some (.long s), none, some (.int c)], [(.int x1), (.int c)]) w
    have x1s := szM_in J.1
    refine s_ic 101 64 rfl rfl rfl (fun (h2 : x1.toInt ≤ c.toInt) => ?_) (fun (h2 : ¬ (x1.toInt ≤ c.toInt)) => ?_)
    · --
      exact hx s c (by rw [F, show c.toInt.toNat = (szM w).toNat by omega])
    · --
      refine aw_step (f1 := (66, [some (.ref 65), some (.int f), some (.int n), some (.int k), some (.int e), some (.long s), none, some (.int c)], [(.long s)])) (w1 := w) rfl rfl ?_
      refine aw_step (f1 := (67, [some (.ref 65), some (.int f), some (.int n), some (.int k), some (.int e), some (.long s), none, some (.int c)], [(.ref 65), (.long s)])) (w1 := w) rfl rfl ?_
      refine s_gr 74 J 70 rfl rfl rfl rfl rfl rfl ?_
      refine aw_step (f1 := (72, [some (.ref 65), some (.int f), some (.int n), some (.int k), some (.int e), some (.long s), none, some (.int c)], [(.int c), (.ref 74), (.long s)])) (w1 := w) rfl rfl ?_
      refine s_la J 73 rfl rfl rfl (by omega) (by omega) fun y3 y3a y3b y3f => ?_
      have hg : rL w 74 c.toInt.toNat = n64 y3 := rL_of y3f
      refine aw_step (f1 := (75, [some (.ref 65), some (.int f), some (.int n), some (.int k), some (.int e), some (.long s), none, some (.int c)], [(.int e), (.long y3), (.long s)])) (w1 := w) rfl rfl ?_
      refine s_cs (z := 110) (as := [(.long y3), (.int e)]) (st1 := [(.long s)]) 78 rfl rfl rfl rfl rfl rfl (Nat.le_of_ble_eq_true rfl) (Nat.le_of_ble_eq_true rfl) (Nat.le_of_ble_eq_true rfl) (q_has y3 e (by omega) (by omega)) ?_
      rintro _ _ ⟨rfl, x4, rfl, x4t⟩
      refine ⟨rfl, ?_⟩
      show aw none _ 166 _ (78, [some (.ref 65), some (.int f), some (.int n), some (.int k), some (.int e), some (.long s), none, some (.int c)], [(.int x4), (.long s)]) w
      have x4l := bt_le (n64 y3) e.toInt.toNat
      refine s_if 91 81 rfl rfl rfl (fun (h5 : x4.toInt = 0) => ?_) (fun (h5 : ¬ (x4.toInt = 0)) => ?_)
      · --
        refine s_l (pc1 := 92) (ls1 := [some (.ref 65), some (.int f), some (.int n), some (.int k), some (.int e), some (.long s), none, some (.int c)]) (st1 := [(.long s)]) rfl rfl fun y6 e7 => ?_
        have e7t : y6.toInt = 0 := by rw [e7]; rfl
        --
        refine s_l (pc1 := 93) (ls1 := [some (.ref 65), some (.int f), some (.int n), some (.int k), some (.int e), some (.long s), none, some (.int c)]) (st1 := []) rfl rfl fun y8 e9 => ?_
        have e9 : y8 = s + y6 := e9
        refine aw_step (f1 := (95, [some (.ref 65), some (.int f), some (.int n), some (.int k), some (.int e), some (.long y8), none, some (.int c)], [])) (w1 := w) rfl rfl ?_
        refine aw_step (f1 := (98, [some (.ref 65), some (.int f), some (.int n), some (.int k), some (.int e), some (.long y8), none, some (.int (c + Int32.ofInt 1))], [])) (w1 := w) rfl rfl ?_
        obtain ⟨x10, x10e⟩ : ∃ z, z = (c + Int32.ofInt 1) := ⟨_, rfl⟩
        have x10t : x10.toInt = c.toInt + (1) := by rw [x10e]; exact n_add (y := Int32.ofInt (1)) (by show _ ≤ _ + (1 : Int); omega) (by show _ + (1 : Int) ≤ _; omega)
        rw [← x10e]
        refine aw_step (f1 := (55, [some (.ref 65), some (.int f), some (.int n), some (.int k), some (.int e), some (.long y8), none, some (.int x10)], [])) (w1 := w) rfl rfl ?_
        refine ih y8 x10 (by omega) (by omega) (by omega) ?_
        rw [show x10.toInt.toNat = c.toInt.toNat + 1 by omega, e9, n64_addm, F]
        show _ = (smT (fun c => bt (rL w 74 c) e.toInt.toNat * rL w 84 c) c.toInt.toNat + bt (rL w 74 c.toInt.toNat) e.toInt.toNat * rL w 84 c.toInt.toNat) % 18446744073709551616
        rw [hg, Nat.mod_add_mod]
        first
          | (rw [show bt (n64 y3) e.toInt.toNat = 0 by omega, Nat.zero_mul, n64_z.mp e7t])
          | (rw [show bt (n64 y3) e.toInt.toNat = 1 by omega, Nat.one_mul, hw])
      · --
        refine aw_step (f1 := (82, [some (.ref 65), some (.int f), some (.int n), some (.int k), some (.int e), some (.long s), none, some (.int c)], [(.ref 65), (.long s)])) (w1 := w) rfl rfl ?_
        refine s_gr 84 J 85 rfl rfl rfl rfl rfl rfl ?_
        refine aw_step (f1 := (87, [some (.ref 65), some (.int f), some (.int n), some (.int k), some (.int e), some (.long s), none, some (.int c)], [(.int c), (.ref 84), (.long s)])) (w1 := w) rfl rfl ?_
        refine s_la J 88 rfl rfl rfl (by omega) (by omega) fun y11 y11a y11b y11f => ?_
        have hw : rL w 84 c.toInt.toNat = n64 y11 := rL_of y11f
        refine aw_step (f1 := (92, [some (.ref 65), some (.int f), some (.int n), some (.int k), some (.int e), some (.long s), none, some (.int c)], [(.long y11), (.long s)])) (w1 := w) rfl rfl ?_
        --
        refine s_l (pc1 := 93) (ls1 := [some (.ref 65), some (.int f), some (.int n), some (.int k), some (.int e), some (.long s), none, some (.int c)]) (st1 := []) rfl rfl fun y12 e13 => ?_
        have e13 : y12 = s + y11 := e13
        refine aw_step (f1 := (95, [some (.ref 65), some (.int f), some (.int n), some (.int k), some (.int e), some (.long y12), none, some (.int c)], [])) (w1 := w) rfl rfl ?_
        refine aw_step (f1 := (98, [some (.ref 65), some (.int f), some (.int n), some (.int k), some (.int e), some (.long y12), none, some (.int (c + Int32.ofInt 1))], [])) (w1 := w) rfl rfl ?_
        obtain ⟨x14, x14e⟩ : ∃ z, z = (c + Int32.ofInt 1) := ⟨_, rfl⟩
        have x14t : x14.toInt = c.toInt + (1) := by rw [x14e]; exact n_add (y := Int32.ofInt (1)) (by show _ ≤ _ + (1 : Int); omega) (by show _ + (1 : Int) ≤ _; omega)
        rw [← x14e]
        refine aw_step (f1 := (55, [some (.ref 65), some (.int f), some (.int n), some (.int k), some (.int e), some (.long y12), none, some (.int x14)], [])) (w1 := w) rfl rfl ?_
        refine ih y12 x14 (by omega) (by omega) (by omega) ?_
        rw [show x14.toInt.toNat = c.toInt.toNat + 1 by omega, e13, n64_addm, F]
        show _ = (smT (fun c => bt (rL w 74 c) e.toInt.toNat * rL w 84 c) c.toInt.toNat + bt (rL w 74 c.toInt.toNat) e.toInt.toNat * rL w 84 c.toInt.toNat) % 18446744073709551616
        rw [hg, Nat.mod_add_mod]
        first
          | (rw [show bt (n64 y3) e.toInt.toNat = 0 by omega, Nat.zero_mul, n64_z.mp zzt])
          | (rw [show bt (n64 y3) e.toInt.toNat = 1 by omega, Nat.one_mul, hw])
theorem f_w2 {d : Nat} {w00 : am_W} {Q : Option Value → am_W → Prop} (f n k : Int32) (hx : ∀ (w : am_W) (e : Int32) (o5 o7 : Option Value), ab_J ab_TT ab_sets ab_WR w00 w → only [85] w00 w → (∀ j : Nat, (j : Int) < szM w00 → rL w 85 j = smT (fun c => bt (rL w00 74 c) j * rL w00 84 c) (szM w00).toNat % 18446744073709551616) → aw none (d + 1) 166 Q (116, [some (.ref 65), some (.int f), some (.int n), some (.int k), some (.int e), o5, none, o7], []) w) : ∀ (m : Nat) (w : am_W) (e : Int32) (o5 o7 : Option Value), (36 - e.toInt).toNat < m → 0 ≤ e.toInt → e.toInt ≤ szM w00 → ab_J ab_TT ab_sets ab_WR w00 w → only [85] w00 w → (∀ j : Nat, (j : Int) < e.toInt → rL w 85 j = smT (fun c => bt (rL w00 74 c) j * rL w00 84 c) (szM w00).toNat % 18446744073709551616) → aw none (d + 1) 166 Q (40, [some (.ref 65), some (.int f), some (.int n), some (.int k), some (.int e), o5, none, o7], []) w := by
  intro m
  induction m with
  | zero => intro w e o5 o7 p; omega
  | succ m ih =>
    intro w e o5 o7 p1 p2 p3 J O F
    refine aw_step (f1 := (42, [some (.ref 65), some (.int f), some (.int n), some (.int k), some (.int e), o5, none, o7], [(.int e)])) (w1 := w) rfl rfl ?_
    refine aw_step (f1 := (43, [some (.ref 65), some (.int f), some (.int n), some (.int k), some (.int e), o5, none, o7], [(.ref 65), (.int e)])) (w1 := w) rfl rfl ?_
    refine s_cv (z := 113) (p := 65) (as := []) (st1 := [(.int e)]) J 46 rfl rfl rfl rfl rfl rfl rfl rfl (Nat.le_of_ble_eq_true rfl) (Nat.le_of_ble_eq_true rfl) (q_cells J.1) ?_
    rintro _ _ ⟨rfl, x1, rfl, x1t⟩
    refine ⟨rfl, ?_⟩
    show aw none _ 166 _ (46, [some (.ref 65), some (.int f), some (.int n), some (.int k), some (.int e), o5, none, o7], [(.int x1), (.int e)]) w
    have x1s := szM_in J.1
    have zz0 : szM w = szM w00 := O.sz (by decide)
    refine s_ic 116 49 rfl rfl rfl (fun (h2 : x1.toInt ≤ e.toInt) => ?_) (fun (h2 : ¬ (x1.toInt ≤ e.toInt)) => ?_)
    · --
      exact hx w e o5 o7 J O (fun j hj => F j (by omega))
    · --
      refine s_l (pc1 := 50) (ls1 := [some (.ref 65), some (.int f), some (.int n), some (.int k), some (.int e), o5, none, o7]) (st1 := []) rfl rfl fun y3 e4 => ?_
      have e4t : y3.toInt = 0 := by rw [e4]; rfl
      refine aw_step (f1 := (52, [some (.ref 65), some (.int f), some (.int n), some (.int k), some (.int e), some (.long y3), none, o7], [])) (w1 := w) rfl rfl ?_
      refine s_i (pc1 := 53) (ls1 := [some (.ref 65), some (.int f), some (.int n), some (.int k), some (.int e), some (.long y3), none, o7]) (st1 := []) rfl rfl fun x5 e6 => ?_
      have e6t : x5.toInt = 0 := by rw [e6]; rfl
      refine aw_step (f1 := (55, [some (.ref 65), some (.int f), some (.int n), some (.int k), some (.int e), some (.long y3), none, some (.int x5)], [])) (w1 := w) rfl rfl ?_
      refine f_w3 f n k e ⟨by omega, by omega⟩ ⟨J.1, ab_fr.rf⟩ (fun s2 c2 hs2 => ?_) 37 y3 x5 (by omega) (by omega) (by omega) (by rw [n64_z.mp e4t, show x5.toInt.toNat = 0 by omega]; rfl)
      refine aw_step (f1 := (102, [some (.ref 65), some (.int f), some (.int n), some (.int k), some (.int e), some (.long s2), none, some (.int c2)], [(.ref 65)])) (w1 := w) rfl rfl ?_
      refine s_gr 85 J 105 rfl rfl rfl rfl rfl rfl ?_
      refine aw_step (f1 := (107, [some (.ref 65), some (.int f), some (.int n), some (.int k), some (.int e), some (.long s2), none, some (.int c2)], [(.int e), (.ref 85)])) (w1 := w) rfl rfl ?_
      refine aw_step (f1 := (109, [some (.ref 65), some (.int f), some (.int n), some (.int k), some (.int e), some (.long s2), none, some (.int c2)], [(.long s2), (.int e), (.ref 85)])) (w1 := w) rfl rfl ?_
      have s2A := ab_any64 s2
      unfold ab_lo64 ab_hi64 at s2A
      refine s_ls J 110 rfl rfl rfl rfl (by omega) (by omega) (by omega) (by omega) fun w7 J8 w7e => ?_
      have w7f := rL_st J.1 (p := 85) (j := e.toInt.toNat) rfl (by omega) w7e
      refine aw_step (f1 := (113, [some (.ref 65), some (.int f), some (.int n), some (.int k), some (.int (e + Int32.ofInt 1)), some (.long s2), none, some (.int c2)], [])) (w1 := w7) rfl rfl ?_
      obtain ⟨x9, x9e⟩ : ∃ z, z = (e + Int32.ofInt 1) := ⟨_, rfl⟩
      have x9t : x9.toInt = e.toInt + (1) := by rw [x9e]; exact n_add (y := Int32.ofInt (1)) (by show _ ≤ _ + (1 : Int); omega) (by show _ + (1 : Int) ≤ _; omega)
      rw [← x9e]
      refine aw_step (f1 := (40, [some (.ref 65), some (.int f), some (.int n), some (.int k), some (.int x9), some (.long s2), none, some (.int c2)], [])) (w1 := w7) rfl rfl ?_
      have se : ∀ j, smT (fun c => bt (rL w 74 c) j * rL w 84 c) (szM w).toNat % 18446744073709551616 = smT (fun c => bt (rL w00 74 c) j * rL w00 84 c) (szM w00).toNat % 18446744073709551616 := fun j => by
        rw [zz0]
        exact congrArg (fun x => x % 18446744073709551616) (smT_eq fun c hc => by
          show bt (rL w 74 c) j * rL w 84 c = bt (rL w00 74 c) j * rL w00 84 c
          rw [O.rLe (by decide), O.rLe (by decide)])
      refine ih w7 x9 _ _ (by omega) (by omega) (by omega) J8 (O.trans w7f.1) (fun j hj => ?_)
      by_cases q : j = e.toInt.toNat
      · rw [q, w7f.2.1, hs2]; exact se _
      · rw [w7f.2.2 j q]; exact F j (by omega)
theorem f_w4 {d : Nat} {w00 : am_W} {Q : Option Value → am_W → Prop} (f n k : Int32) (o5 o7 : Option Value) (hx : ∀ (w : am_W) (e : Int32), ab_J ab_TT ab_sets ab_WR w00 w → only [84] w00 w → (∀ j : Nat, (j : Int) < szM w00 → rL w 84 j = rL w00 85 j) → aw none (d + 1) 166 Q (148, [some (.ref 65), some (.int f), some (.int n), some (.int k), some (.int e), o5, none, o7], []) w) : ∀ (m : Nat) (w : am_W) (e : Int32), (36 - e.toInt).toNat < m → 0 ≤ e.toInt → e.toInt ≤ szM w00 → ab_J ab_TT ab_sets ab_WR w00 w → only [84] w00 w → (∀ j : Nat, (j : Int) < e.toInt → rL w 84 j = rL w00 85 j) → aw none (d + 1) 166 Q (119, [some (.ref 65), some (.int f), some (.int n), some (.int k), some (.int e), o5, none, o7], []) w := by
  intro m
  induction m with
  | zero => intro w e p; omega
  | succ m ih =>
    intro w e p1 p2 p3 J O F
    refine aw_step (f1 := (121, [some (.ref 65), some (.int f), some (.int n), some (.int k), some (.int e), o5, none, o7], [(.int e)])) (w1 := w) rfl rfl ?_
    refine aw_step (f1 := (122, [some (.ref 65), some (.int f), some (.int n), some (.int k), some (.int e), o5, none, o7], [(.ref 65), (.int e)])) (w1 := w) rfl rfl ?_
    refine s_cv (z := 113) (p := 65) (as := []) (st1 := [(.int e)]) J 125 rfl rfl rfl rfl rfl rfl rfl rfl (Nat.le_of_ble_eq_true rfl) (Nat.le_of_ble_eq_true rfl) (q_cells J.1) ?_
    rintro _ _ ⟨rfl, x1, rfl, x1t⟩
    refine ⟨rfl, ?_⟩
    show aw none _ 166 _ (125, [some (.ref 65), some (.int f), some (.int n), some (.int k), some (.int e), o5, none, o7], [(.int x1), (.int e)]) w
    have x1s := szM_in J.1
    have zz0 : szM w = szM w00 := O.sz (by decide)
    refine s_ic 148 128 rfl rfl rfl (fun (h2 : x1.toInt ≤ e.toInt) => ?_) (fun (h2 : ¬ (x1.toInt ≤ e.toInt)) => ?_)
    · --
      exact hx w e J O (fun j hj => F j (by omega))
    · --
      refine aw_step (f1 := (129, [some (.ref 65), some (.int f), some (.int n), some (.int k), some (.int e), o5, none, o7], [(.ref 65)])) (w1 := w) rfl rfl ?_
      refine s_gr 84 J 132 rfl rfl rfl rfl rfl rfl ?_
      refine aw_step (f1 := (134, [some (.ref 65), some (.int f), some (.int n), some (.int k), some (.int e), o5, none, o7], [(.int e), (.ref 84)])) (w1 := w) rfl rfl ?_
      refine aw_step (f1 := (135, [some (.ref 65), some (.int f), some (.int n), some (.int k), some (.int e), o5, none, o7], [(.ref 65), (.int e), (.ref 84)])) (w1 := w) rfl rfl ?_
      refine s_gr 85 J 138 rfl rfl rfl rfl rfl rfl ?_
      refine aw_step (f1 := (140, [some (.ref 65), some (.int f), some (.int n), some (.int k), some (.int e), o5, none, o7], [(.int e), (.ref 85), (.int e), (.ref 84)])) (w1 := w) rfl rfl ?_
      refine s_la J 141 rfl rfl rfl (by omega) (by omega) fun y3 y3a y3b y3f => ?_
      have y3A := ab_any64 y3
      unfold ab_lo64 ab_hi64 at y3A
      have hr : rL w00 85 e.toInt.toNat = n64 y3 := (O.rLe (by decide)).symm.trans (rL_of y3f)
      refine s_ls J 142 rfl rfl rfl rfl (by omega) (by omega) (by omega) (by omega) fun w4 J5 w4e => ?_
      have w4f := rL_st J.1 (p := 84) (j := e.toInt.toNat) rfl (by omega) w4e
      refine aw_step (f1 := (145, [some (.ref 65), some (.int f), some (.int n), some (.int k), some (.int (e + Int32.ofInt 1)), o5, none, o7], [])) (w1 := w4) rfl rfl ?_
      obtain ⟨x6, x6e⟩ : ∃ z, z = (e + Int32.ofInt 1) := ⟨_, rfl⟩
      have x6t : x6.toInt = e.toInt + (1) := by rw [x6e]; exact n_add (y := Int32.ofInt (1)) (by show _ ≤ _ + (1 : Int); omega) (by show _ + (1 : Int) ≤ _; omega)
      rw [← x6e]
      refine aw_step (f1 := (119, [some (.ref 65), some (.int f), some (.int n), some (.int k), some (.int x6), o5, none, o7], [])) (w1 := w4) rfl rfl ?_
      refine ih w4 x6 (by omega) (by omega) (by omega) J5 (O.trans w4f.1) (fun j hj => ?_)
      by_cases q : j = e.toInt.toNat
      · rw [q, w4f.2.1, ← hr]
      · rw [w4f.2.2 j q]; exact F j (by omega)
theorem f_w1 {d : Nat} {w00 : am_W} (f n : Int32) (hn : 0 ≤ n.toInt ∧ n.toInt ≤ 12) (szm : 1 ≤ szM w00 ∧ szM w00 ≤ 36) : ∀ (m : Nat) (w : am_W) (k : Int32) (o4 o5 o7 : Option Value), (n.toInt - k.toInt).toNat < m → 0 ≤ k.toInt → k.toInt ≤ n.toInt → ab_J ab_TT ab_sets ab_WR w00 w → only [84, 85] w00 w → (∀ c : Nat, (c : Int) < szM w00 → rL w 84 c = wyT (rL w00 74) (szM w00).toNat f.toInt.toNat k.toInt.toNat c) → aw none (d + 1) 166 (fun r w1 => r = none ∧ ab_J ab_TT ab_sets ab_WR w00 w1 ∧ only [84, 85] w00 w1 ∧ ∀ c : Nat, (c : Int) < szM w00 → rL w1 84 c = wyT (rL w00 74) (szM w00).toNat f.toInt.toNat n.toInt.toNat c) (32, [some (.ref 65), some (.int f), some (.int n), some (.int k), o4, o5, none, o7], []) w := by
  intro m
  induction m with
  | zero => intro w k o4 o5 o7 p; omega
  | succ m ih =>
    intro w k o4 o5 o7 p1 p2 p3 J O F
    refine aw_step (f1 := (33, [some (.ref 65), some (.int f), some (.int n), some (.int k), o4, o5, none, o7], [(.int k)])) (w1 := w) rfl rfl ?_
    refine aw_step (f1 := (34, [some (.ref 65), some (.int f), some (.int n), some (.int k), o4, o5, none, o7], [(.int n), (.int k)])) (w1 := w) rfl rfl ?_
    have zz0 : szM w = szM w00 := O.sz (by decide)
    refine s_ic 154 37 rfl rfl rfl (fun (h1 : n.toInt ≤ k.toInt) => ?_) (fun (h1 : ¬ (n.toInt ≤ k.toInt)) => ?_)
    · --
      refine aw_ret (v := none) rfl rfl ?_
      exact ⟨rfl, J, O, fun c hc => by rw [F c hc, show k.toInt.toNat = n.toInt.toNat by omega]⟩
    · --
      refine s_i (pc1 := 38) (ls1 := [some (.ref 65), some (.int f), some (.int n), some (.int k), o4, o5, none, o7]) (st1 := []) rfl rfl fun x2 e3 => ?_
      have e3t : x2.toInt = 0 := by rw [e3]; rfl
      refine aw_step (f1 := (40, [some (.ref 65), some (.int f), some (.int n), some (.int k), some (.int x2), o5, none, o7], [])) (w1 := w) rfl rfl ?_
      refine f_w2 f n k (fun wa ea o5a o7a Ja Oa Fa => ?_) 37 w x2 _ _ (by omega) (by omega) (by omega) ⟨J.1, ab_fr.rf⟩ only.rf (fun j hj => by omega)
      have za : szM wa = szM w := Oa.sz (by decide)
      refine s_i (pc1 := 117) (ls1 := [some (.ref 65), some (.int f), some (.int n), some (.int k), some (.int ea), o5a, none, o7a]) (st1 := []) rfl rfl fun x4 e5 => ?_
      have e5t : x4.toInt = 0 := by rw [e5]; rfl
      refine aw_step (f1 := (119, [some (.ref 65), some (.int f), some (.int n), some (.int k), some (.int x4), o5a, none, o7a], [])) (w1 := wa) rfl rfl ?_
      refine f_w4 f n k o5a o7a (fun wb eb Jb Ob Fb => ?_) 37 wa x4 (by omega) (by omega) (by omega) ⟨Ja.1, ab_fr.rf⟩ only.rf (fun j hj => by omega)
      refine aw_step (f1 := (151, [some (.ref 65), some (.int f), some (.int n), some (.int (k + Int32.ofInt 1)), some (.int eb), o5a, none, o7a], [])) (w1 := wb) rfl rfl ?_
      obtain ⟨x6, x6e⟩ : ∃ z, z = (k + Int32.ofInt 1) := ⟨_, rfl⟩
      have x6t : x6.toInt = k.toInt + (1) := by rw [x6e]; exact n_add (y := Int32.ofInt (1)) (by show _ ≤ _ + (1 : Int); omega) (by show _ + (1 : Int) ≤ _; omega)
      rw [← x6e]
      refine aw_step (f1 := (32, [some (.ref 65), some (.int f), some (.int n), some (.int x6), some (.int eb), o5a, none, o7a], [])) (w1 := wb) rfl rfl ?_
      refine ih wb x6 _ _ _ (by omega) (by omega) (by omega) (J.trans (Ja.trans Jb)) (O.trans ((oc Oa (by decide)).trans (oc Ob (by decide)))) (fun c hc => ?_)
      rw [show x6.toInt.toNat = k.toInt.toNat + 1 by omega, Fb c (by omega), Fa c (by omega), zz0]
      have ee : smT (fun q => bt (rL w 74 q) c * rL w 84 q) (szM w00).toNat = wyT (rL w00 74) (szM w00).toNat f.toInt.toNat (k.toInt.toNat + 1) c := by
        show _ = smT (fun q => bt (rL w00 74 q) c * wyT (rL w00 74) (szM w00).toNat f.toInt.toNat k.toInt.toNat q) (szM w00).toNat
        exact smT_eq fun q hq => by
          show bt (rL w 74 q) c * rL w 84 q = bt (rL w00 74 q) c * wyT (rL w00 74) (szM w00).toNat f.toInt.toNat k.toInt.toNat q
          rw [O.rLe (p := 74) (by decide), F q (by omega)]
      rw [ee]
      exact Nat.mod_eq_of_lt (Nat.lt_trans (wyT_63 (by omega) (by omega) c) (by decide))
theorem f_w0 {d : Nat} {w00 : am_W} (f n : Int32) (hf : 0 ≤ f.toInt ∧ f.toInt < 36) (hn : 0 ≤ n.toInt ∧ n.toInt ≤ 12) (szm : 1 ≤ szM w00 ∧ szM w00 ≤ 36) : ∀ (m : Nat) (w : am_W) (i : Int32), (36 - i.toInt).toNat < m → 0 ≤ i.toInt → i.toInt ≤ 36 → ab_J ab_TT ab_sets ab_WR w00 w → only [84] w00 w → (∀ c : Nat, (c : Int) < i.toInt → rL w 84 c = if c = f.toInt.toNat then 1 else 0) → aw none (d + 1) 166 (fun r w1 => r = none ∧ ab_J ab_TT ab_sets ab_WR w00 w1 ∧ only [84, 85] w00 w1 ∧ ∀ c : Nat, (c : Int) < szM w00 → rL w1 84 c = wyT (rL w00 74) (szM w00).toNat f.toInt.toNat n.toInt.toNat c) (2, [some (.ref 65), some (.int f), some (.int n), some (.int i), none, none, none, none], []) w := by
  intro m
  induction m with
  | zero => intro w i p; omega
  | succ m ih =>
    intro w i p1 p2 p3 J O F
    refine aw_step (f1 := (3, [some (.ref 65), some (.int f), some (.int n), some (.int i), none, none, none, none], [(.int i)])) (w1 := w) rfl rfl ?_
    refine s_i (pc1 := 5) (ls1 := [some (.ref 65), some (.int f), some (.int n), some (.int i), none, none, none, none]) (st1 := [(.int i)]) rfl rfl fun x1 e2 => ?_
    have e2t : x1.toInt = 36 := by rw [e2]; rfl
    refine s_ic 30 8 rfl rfl rfl (fun (h3 : x1.toInt ≤ i.toInt) => ?_) (fun (h3 : ¬ (x1.toInt ≤ i.toInt)) => ?_)
    · --
      refine s_i (pc1 := 31) (ls1 := [some (.ref 65), some (.int f), some (.int n), some (.int i), none, none, none, none]) (st1 := []) rfl rfl fun x4 e5 => ?_
      have e5t : x4.toInt = 0 := by rw [e5]; rfl
      refine aw_step (f1 := (32, [some (.ref 65), some (.int f), some (.int n), some (.int x4), none, none, none, none], [])) (w1 := w) rfl rfl ?_
      refine f_w1 f n hn szm 13 w x4 none none none (by omega) (by omega) (by omega) J (oc O (by decide)) (fun c hc => ?_)
      rw [F c (by omega), show x4.toInt.toNat = 0 by omega]
      rfl
    · --
      refine aw_step (f1 := (9, [some (.ref 65), some (.int f), some (.int n), some (.int i), none, none, none, none], [(.ref 65)])) (w1 := w) rfl rfl ?_
      refine s_gr 84 J 12 rfl rfl rfl rfl rfl rfl ?_
      refine aw_step (f1 := (13, [some (.ref 65), some (.int f), some (.int n), some (.int i), none, none, none, none], [(.int i), (.ref 84)])) (w1 := w) rfl rfl ?_
      refine aw_step (f1 := (14, [some (.ref 65), some (.int f), some (.int n), some (.int i), none, none, none, none], [(.int i), (.int i), (.ref 84)])) (w1 := w) rfl rfl ?_
      refine aw_step (f1 := (15, [some (.ref 65), some (.int f), some (.int n), some (.int i), none, none, none, none], [(.int f), (.int i), (.int i), (.ref 84)])) (w1 := w) rfl rfl ?_
      refine s_ic 22 18 rfl rfl rfl (fun (h6 : ¬ i.toInt = f.toInt) => ?_) (fun (h6 : ¬ (¬ i.toInt = f.toInt)) => ?_)
      · --
        refine s_l (pc1 := 23) (ls1 := [some (.ref 65), some (.int f), some (.int n), some (.int i), none, none, none, none]) (st1 := [(.int i), (.ref 84)]) rfl rfl fun y7 e8 => ?_
        have e8t : y7.toInt = 0 := by rw [e8]; rfl
        refine s_ls J 24 rfl rfl rfl rfl (by omega) (by omega) (by omega) (by omega) fun w9 J10 w9e => ?_
        have w9f := rL_st J.1 (p := 84) (j := i.toInt.toNat) rfl (by omega) w9e
        refine aw_step (f1 := (27, [some (.ref 65), some (.int f), some (.int n), some (.int (i + Int32.ofInt 1)), none, none, none, none], [])) (w1 := w9) rfl rfl ?_
        obtain ⟨x11, x11e⟩ : ∃ z, z = (i + Int32.ofInt 1) := ⟨_, rfl⟩
        have x11t : x11.toInt = i.toInt + (1) := by rw [x11e]; exact n_add (y := Int32.ofInt (1)) (by show _ ≤ _ + (1 : Int); omega) (by show _ + (1 : Int) ≤ _; omega)
        rw [← x11e]
        refine aw_step (f1 := (2, [some (.ref 65), some (.int f), some (.int n), some (.int x11), none, none, none, none], [])) (w1 := w9) rfl rfl ?_
        refine ih w9 x11 (by omega) (by omega) (by omega) J10 (O.trans w9f.1) (fun j hj => ?_)
        by_cases q : j = i.toInt.toNat
        · rw [q, w9f.2.1, n64_c e8t (by decide)]
          first
            | (rw [if_pos (by omega)]; rfl)
            | (rw [if_neg (by omega)]; rfl)
        · rw [w9f.2.2 j q]; exact F j (by omega)
      · --
        refine s_l (pc1 := 19) (ls1 := [some (.ref 65), some (.int f), some (.int n), some (.int i), none, none, none, none]) (st1 := [(.int i), (.ref 84)]) rfl rfl fun y12 e13 => ?_
        have e13t : y12.toInt = 1 := by rw [e13]; rfl
        refine aw_step (f1 := (23, [some (.ref 65), some (.int f), some (.int n), some (.int i), none, none, none, none], [(.long y12), (.int i), (.ref 84)])) (w1 := w) rfl rfl ?_
        refine s_ls J 24 rfl rfl rfl rfl (by omega) (by omega) (by omega) (by omega) fun w14 J15 w14e => ?_
        have w14f := rL_st J.1 (p := 84) (j := i.toInt.toNat) rfl (by omega) w14e
        refine aw_step (f1 := (27, [some (.ref 65), some (.int f), some (.int n), some (.int (i + Int32.ofInt 1)), none, none, none, none], [])) (w1 := w14) rfl rfl ?_
        obtain ⟨x16, x16e⟩ : ∃ z, z = (i + Int32.ofInt 1) := ⟨_, rfl⟩
        have x16t : x16.toInt = i.toInt + (1) := by rw [x16e]; exact n_add (y := Int32.ofInt (1)) (by show _ ≤ _ + (1 : Int); omega) (by show _ + (1 : Int) ≤ _; omega)
        rw [← x16e]
        refine aw_step (f1 := (2, [some (.ref 65), some (.int f), some (.int n), some (.int x16), none, none, none, none], [])) (w1 := w14) rfl rfl ?_
        refine ih w14 x16 (by omega) (by omega) (by omega) J15 (O.trans w14f.1) (fun j hj => ?_)
        by_cases q : j = i.toInt.toNat
        · rw [q, w14f.2.1, n64_c e13t (by decide)]
          first
            | (rw [if_pos (by omega)]; rfl)
            | (rw [if_neg (by omega)]; rfl)
        · rw [w14f.2.2 j q]; exact F j (by omega)
theorem f_findWays {d : Nat} {w : am_W} (f n : Int32) (hf : 0 ≤ f.toInt ∧ f.toInt < 36) (hn : 0 ≤ n.toInt ∧ n.toInt ≤ 12) (I : ab_inv ab_TT ab_sets w) : aw none (d + 1) 166 (fun r w1 => r = none ∧ ab_J ab_TT ab_sets ab_WR w w1 ∧ only [84, 85] w w1 ∧ ∀ c : Nat, (c : Int) < szM w → rL w1 84 c = wyT (rL w 74) (szM w).toNat f.toInt.toNat n.toInt.toNat c) (0, am_entry 166 [.ref 65, .int f, .int n], []) w := by
  have J : ab_J ab_TT ab_sets ab_WR w w := ⟨I, ab_fr.rf⟩
  show aw none (d + 1) 166 _ (0, [some (.ref 65), some (.int f), some (.int n), none, none, none, none, none], []) w
  refine s_i (pc1 := 1) (ls1 := [some (.ref 65), some (.int f), some (.int n), none, none, none, none, none]) (st1 := []) rfl rfl fun x1 e2 => ?_
  have e2t : x1.toInt = 0 := by rw [e2]; rfl
  refine aw_step (f1 := (2, [some (.ref 65), some (.int f), some (.int n), some (.int x1), none, none, none, none], [])) (w1 := w) rfl rfl ?_
  exact f_w0 f n hf hn (szM_in I) 37 w x1 (by omega) (by omega) (by omega) J only.rf (fun c hc => by omega)
