/-! ===== chance of the model: findChances, common ===== -/
theorem f_c3 {d : Nat} {w00 : am_W} {Q : Option Value → am_W → Prop} (f n k e : Int32) (a : Int64) (he : 0 ≤ e.toInt ∧ e.toInt < 36) (hW : ∀ c : Nat, (c : Int) < szM w00 → rL w00 84 c < 9223372036854775808) (szm : 1 ≤ szM w00 ∧ szM w00 ≤ 36) (hx : ∀ (w : am_W) (c : Int32), ab_J ab_TT ab_sets ab_WR w00 w → only [85] w00 w → (∀ j, j ≠ e.toInt.toNat → rL w 85 j = rL w00 85 j) → rL w 85 e.toInt.toNat = (rL w00 85 e.toInt.toNat + smT (fun c => bt (rL w00 74 c) e.toInt.toNat * (rL w00 84 c / cnt (rL w00 74 c) 64)) (szM w00).toNat) % 18446744073709551616 → aw none (d + 1) 170 Q (151, [some (.ref 65), some (.int f), some (.int n), some (.long a), none, some (.int k), some (.int e), some (.int c)], []) w) : ∀ (m : Nat) (w : am_W) (c : Int32), (36 - c.toInt).toNat < m → 0 ≤ c.toInt → c.toInt ≤ szM w00 → ab_J ab_TT ab_sets ab_WR w00 w → only [85] w00 w → (∀ j, j ≠ e.toInt.toNat → rL w 85 j = rL w00 85 j) → rL w 85 e.toInt.toNat = (rL w00 85 e.toInt.toNat + smT (fun c => bt (rL w00 74 c) e.toInt.toNat * (rL w00 84 c / cnt (rL w00 74 c) 64)) c.toInt.toNat) % 18446744073709551616 → aw none (d + 1) 170 Q (88, [some (.ref 65), some (.int f), some (.int n), some (.long a), none, some (.int k), some (.int e), some (.int c)], []) w := by
  intro m
  induction m with
  | zero => intro w c p; omega
  | succ m ih =>
    intro w c p1 p2 p3 J O G F
    refine aw_step (f1 := (90, [some (.ref 65), some (.int f), some (.int n), some (.long a), none, some (.int k), some (.int e), some (.int c)], [(.int c)])) (w1 := w) rfl rfl ?_
    refine aw_step (f1 := (91, [some (.ref 65), some (.int f), some (.int n), some (.long a), none, some (.int k), some (.int e), some (.int c)], [(.ref 65), (.int c)])) (w1 := w) rfl rfl ?_
    refine s_cv (z := 113) (p := 65) (as := []) (st1 := [(.int c)]) J 94 rfl rfl rfl rfl rfl rfl rfl rfl (Nat.le_of_ble_eq_true rfl) (Nat.le_of_ble_eq_true rfl) (q_cells J.1) ?_
    rintro _ _ ⟨rfl, x1, rfl, x1t⟩
    refine ⟨rfl, ?_⟩
    show aw none _ 170 _ (94, [some (.ref 65), some (.int f), some (.int n), some (.long a), none, some (.int k), some (.int e), some (.int c)], [(.int x1), (.int c)]) w
    have x1s := szM_in J.1
    have zz0 : szM w = szM w00 := O.sz (by decide)
    refine s_ic 151 97 rfl rfl rfl (fun (h2 : x1.toInt ≤ c.toInt) => ?_) (fun (h2 : ¬ (x1.toInt ≤ c.toInt)) => ?_)
    · --
      exact hx w c J O G (by rw [F, show c.toInt.toNat = (szM w00).toNat by omega])
    · --
      refine aw_step (f1 := (98, [some (.ref 65), some (.int f), some (.int n), some (.long a), none, some (.int k), some (.int e), some (.int c)], [(.ref 65)])) (w1 := w) rfl rfl ?_
      refine s_gr 85 J 101 rfl rfl rfl rfl rfl rfl ?_
      refine aw_step (f1 := (103, [some (.ref 65), some (.int f), some (.int n), some (.long a), none, some (.int k), some (.int e), some (.int c)], [(.int e), (.ref 85)])) (w1 := w) rfl rfl ?_
      refine aw_step (f1 := (104, [some (.ref 65), some (.int f), some (.int n), some (.long a), none, some (.int k), some (.int e), some (.int c)], [(.int e), (.ref 85), (.int e), (.ref 85)])) (w1 := w) rfl rfl ?_
      refine s_la J 105 rfl rfl rfl (by omega) (by omega) fun y3 y3a y3b y3f => ?_
      have ho : rL w 85 e.toInt.toNat = n64 y3 := rL_of y3f
      refine aw_step (f1 := (106, [some (.ref 65), some (.int f), some (.int n), some (.long a), none, some (.int k), some (.int e), some (.int c)], [(.ref 65), (.long y3), (.int e), (.ref 85)])) (w1 := w) rfl rfl ?_
      refine s_gr 74 J 109 rfl rfl rfl rfl rfl rfl ?_
      refine aw_step (f1 := (111, [some (.ref 65), some (.int f), some (.int n), some (.long a), none, some (.int k), some (.int e), some (.int c)], [(.int c), (.ref 74), (.long y3), (.int e), (.ref 85)])) (w1 := w) rfl rfl ?_
      refine s_la J 112 rfl rfl rfl (by omega) (by omega) fun y4 y4a y4b y4f => ?_
      have hg : rL w00 74 c.toInt.toNat = n64 y4 := (O.rLe (by decide)).symm.trans (rL_of y4f)
      refine aw_step (f1 := (114, [some (.ref 65), some (.int f), some (.int n), some (.long a), none, some (.int k), some (.int e), some (.int c)], [(.int e), (.long y4), (.long y3), (.int e), (.ref 85)])) (w1 := w) rfl rfl ?_
      refine s_cs (z := 110) (as := [(.long y4), (.int e)]) (st1 := [(.long y3), (.int e), (.ref 85)]) 117 rfl rfl rfl rfl rfl rfl (Nat.le_of_ble_eq_true rfl) (Nat.le_of_ble_eq_true rfl) (Nat.le_of_ble_eq_true rfl) (q_has y4 e (by omega) (by omega)) ?_
      rintro _ _ ⟨rfl, x5, rfl, x5t⟩
      refine ⟨rfl, ?_⟩
      show aw none _ 170 _ (117, [some (.ref 65), some (.int f), some (.int n), some (.long a), none, some (.int k), some (.int e), some (.int c)], [(.int x5), (.long y3), (.int e), (.ref 85)]) w
      have x5l := bt_le (n64 y4) e.toInt.toNat
      refine s_if 142 120 rfl rfl rfl (fun (h6 : x5.toInt = 0) => ?_) (fun (h6 : ¬ (x5.toInt = 0)) => ?_)
      · --
        refine s_l (pc1 := 143) (ls1 := [some (.ref 65), some (.int f), some (.int n), some (.long a), none, some (.int k), some (.int e), some (.int c)]) (st1 := [(.long y3), (.int e), (.ref 85)]) rfl rfl fun y7 e8 => ?_
        have e8t : y7.toInt = 0 := by rw [e8]; rfl
        --
        refine s_l (pc1 := 144) (ls1 := [some (.ref 65), some (.int f), some (.int n), some (.long a), none, some (.int k), some (.int e), some (.int c)]) (st1 := [(.int e), (.ref 85)]) rfl rfl fun y9 e10 => ?_
        have e10 : y9 = y3 + y7 := e10
        have y9A := ab_any64 y9
        unfold ab_lo64 ab_hi64 at y9A
        refine s_ls J 145 rfl rfl rfl rfl (by omega) (by omega) (by omega) (by omega) fun w11 J12 w11e => ?_
        have w11f := rL_st J.1 (p := 85) (j := e.toInt.toNat) rfl (by omega) w11e
        refine aw_step (f1 := (148, [some (.ref 65), some (.int f), some (.int n), some (.long a), none, some (.int k), some (.int e), some (.int (c + Int32.ofInt 1))], [])) (w1 := w11) rfl rfl ?_
        obtain ⟨x13, x13e⟩ : ∃ z, z = (c + Int32.ofInt 1) := ⟨_, rfl⟩
        have x13t : x13.toInt = c.toInt + (1) := by rw [x13e]; exact n_add (y := Int32.ofInt (1)) (by show _ ≤ _ + (1 : Int); omega) (by show _ + (1 : Int) ≤ _; omega)
        rw [← x13e]
        refine aw_step (f1 := (88, [some (.ref 65), some (.int f), some (.int n), some (.long a), none, some (.int k), some (.int e), some (.int x13)], [])) (w1 := w11) rfl rfl ?_
        refine ih w11 x13 (by omega) (by omega) (by omega) J12 (O.trans w11f.1) (fun j hj => by rw [w11f.2.2 j hj]; exact G j hj) ?_
        rw [show x13.toInt.toNat = c.toInt.toNat + 1 by omega, w11f.2.1, e10, n64_addm, ← ho, F]
        show _ = (rL w00 85 e.toInt.toNat + (smT (fun c => bt (rL w00 74 c) e.toInt.toNat * (rL w00 84 c / cnt (rL w00 74 c) 64)) c.toInt.toNat + bt (rL w00 74 c.toInt.toNat) e.toInt.toNat * (rL w00 84 c.toInt.toNat / cnt (rL w00 74 c.toInt.toNat) 64))) % 18446744073709551616
        rw [hg, Nat.mod_add_mod, Nat.add_assoc]
        first
          | (rw [show bt (n64 y4) e.toInt.toNat = 0 by omega, Nat.zero_mul, n64_z.mp e8t])
          | (rw [show bt (n64 y4) e.toInt.toNat = 1 by omega, Nat.one_mul, dv.1, hw, dm])
      · --
        refine aw_step (f1 := (121, [some (.ref 65), some (.int f), some (.int n), some (.long a), none, some (.int k), some (.int e), some (.int c)], [(.ref 65), (.long y3), (.int e), (.ref 85)])) (w1 := w) rfl rfl ?_
        refine s_gr 84 J 124 rfl rfl rfl rfl rfl rfl ?_
        refine aw_step (f1 := (126, [some (.ref 65), some (.int f), some (.int n), some (.long a), none, some (.int k), some (.int e), some (.int c)], [(.int c), (.ref 84), (.long y3), (.int e), (.ref 85)])) (w1 := w) rfl rfl ?_
        refine s_la J 127 rfl rfl rfl (by omega) (by omega) fun y14 y14a y14b y14f => ?_
        have hw : rL w00 84 c.toInt.toNat = n64 y14 := (O.rLe (by decide)).symm.trans (rL_of y14f)
        have hwl := hW c.toInt.toNat (by omega)
        rw [hw] at hwl
        have hwi := n64_toInt (x := y14) (by omega)
        refine aw_step (f1 := (128, [some (.ref 65), some (.int f), some (.int n), some (.long a), none, some (.int k), some (.int e), some (.int c)], [(.ref 65), (.long y14), (.long y3), (.int e), (.ref 85)])) (w1 := w) rfl rfl ?_
        refine s_gr 74 J 131 rfl rfl rfl rfl rfl rfl ?_
        refine aw_step (f1 := (133, [some (.ref 65), some (.int f), some (.int n), some (.long a), none, some (.int k), some (.int e), some (.int c)], [(.int c), (.ref 74), (.long y14), (.long y3), (.int e), (.ref 85)])) (w1 := w) rfl rfl ?_
        refine s_la J 134 rfl rfl rfl (by omega) (by omega) fun y15 y15a y15b y15f => ?_
        have hg2 : n64 y15 = n64 y4 := (rL_of y15f).symm.trans ((O.rLe (by decide)).trans hg)
        refine s_cs (z := 109) (as := [(.long y15)]) (st1 := [(.long y14), (.long y3), (.int e), (.ref 85)]) 137 rfl rfl rfl rfl rfl rfl (Nat.le_of_ble_eq_true rfl) (Nat.le_of_ble_eq_true rfl) (Nat.le_of_ble_eq_true rfl) (q_ones y15) ?_
        rintro _ _ ⟨rfl, x16, rfl, x16t⟩
        refine ⟨rfl, ?_⟩
        show aw none _ 170 _ (137, [some (.ref 65), some (.int f), some (.int n), some (.long a), none, some (.int k), some (.int e), some (.int c)], [(.int x16), (.long y14), (.long y3), (.int e), (.ref 85)]) w
        have x16c := cnt_le (n64 y15) 64
        have op : 0 < cnt (n64 y15) 64 := cnt_nz (fun q => by have u : bt (n64 y4) e.toInt.toNat = 1 := (by omega); rw [← hg2, q, bt_z] at u; omega) (n64_lt _)
        refine s_l (pc1 := 138) (ls1 := [some (.ref 65), some (.int f), some (.int n), some (.long a), none, some (.int k), some (.int e), some (.int c)]) (st1 := [(.long y14), (.long y3), (.int e), (.ref 85)]) rfl rfl fun y17 e18 => ?_
        have e18t : y17.toInt = x16.toInt := by rw [e18]; exact Int32.toInt_toInt64 x16
        --
        refine s_dvl (f := fun x y => x / y) 139 rfl rfl (by omega) fun y19 e20 => ?_
        have e20 : y19 = y14 / y17 := e20
        have dv := n64_div (x := y14) (y := y17) (by omega) (by omega)
        rw [← e20] at dv
        have dm : n64 y17 = cnt (n64 y4) 64 := by rw [← hg2]; have := n64_of (x := y17) (by omega); omega
        refine aw_step (f1 := (143, [some (.ref 65), some (.int f), some (.int n), some (.long a), none, some (.int k), some (.int e), some (.int c)], [(.long y19), (.long y3), (.int e), (.ref 85)])) (w1 := w) rfl rfl ?_
        --
        refine s_l (pc1 := 144) (ls1 := [some (.ref 65), some (.int f), some (.int n), some (.long a), none, some (.int k), some (.int e), some (.int c)]) (st1 := [(.int e), (.ref 85)]) rfl rfl fun y21 e22 => ?_
        have e22 : y21 = y3 + y19 := e22
        have y21A := ab_any64 y21
        unfold ab_lo64 ab_hi64 at y21A
        refine s_ls J 145 rfl rfl rfl rfl (by omega) (by omega) (by omega) (by omega) fun w23 J24 w23e => ?_
        have w23f := rL_st J.1 (p := 85) (j := e.toInt.toNat) rfl (by omega) w23e
        refine aw_step (f1 := (148, [some (.ref 65), some (.int f), some (.int n), some (.long a), none, some (.int k), some (.int e), some (.int (c + Int32.ofInt 1))], [])) (w1 := w23) rfl rfl ?_
        obtain ⟨x25, x25e⟩ : ∃ z, z = (c + Int32.ofInt 1) := ⟨_, rfl⟩
        have x25t : x25.toInt = c.toInt + (1) := by rw [x25e]; exact n_add (y := Int32.ofInt (1)) (by show _ ≤ _ + (1 : Int); omega) (by show _ + (1 : Int) ≤ _; omega)
        rw [← x25e]
        refine aw_step (f1 := (88, [some (.ref 65), some (.int f), some (.int n), some (.long a), none, some (.int k), some (.int e), some (.int x25)], [])) (w1 := w23) rfl rfl ?_
        refine ih w23 x25 (by omega) (by omega) (by omega) J24 (O.trans w23f.1) (fun j hj => by rw [w23f.2.2 j hj]; exact G j hj) ?_
        rw [show x25.toInt.toNat = c.toInt.toNat + 1 by omega, w23f.2.1, e22, n64_addm, ← ho, F]
        show _ = (rL w00 85 e.toInt.toNat + (smT (fun c => bt (rL w00 74 c) e.toInt.toNat * (rL w00 84 c / cnt (rL w00 74 c) 64)) c.toInt.toNat + bt (rL w00 74 c.toInt.toNat) e.toInt.toNat * (rL w00 84 c.toInt.toNat / cnt (rL w00 74 c.toInt.toNat) 64))) % 18446744073709551616
        rw [hg, Nat.mod_add_mod, Nat.add_assoc]
        first
          | (rw [show bt (n64 y4) e.toInt.toNat = 0 by omega, Nat.zero_mul, n64_z.mp e20t])
          | (rw [show bt (n64 y4) e.toInt.toNat = 1 by omega, Nat.one_mul, dv.1, hw, dm])
theorem f_c2 {d : Nat} {w00 : am_W} {Q : Option Value → am_W → Prop} (f n k : Int32) (a : Int64) (hW : ∀ c : Nat, (c : Int) < szM w00 → rL w00 84 c < 9223372036854775808) (szm : 1 ≤ szM w00 ∧ szM w00 ≤ 36) (hx : ∀ (w : am_W) (e : Int32) (o7 : Option Value), ab_J ab_TT ab_sets ab_WR w00 w → only [85] w00 w → (∀ j : Nat, (j : Int) < szM w00 → rL w 85 j = ((if rL w00 74 j = 0 then rL w00 84 j else 0) + smT (fun c => bt (rL w00 74 c) j * (rL w00 84 c / cnt (rL w00 74 c) 64)) (szM w00).toNat) % 18446744073709551616) → aw none (d + 1) 170 Q (157, [some (.ref 65), some (.int f), some (.int n), some (.long a), none, some (.int k), some (.int e), o7], []) w) : ∀ (m : Nat) (w : am_W) (e : Int32) (o7 : Option Value), (36 - e.toInt).toNat < m → 0 ≤ e.toInt → e.toInt ≤ szM w00 → ab_J ab_TT ab_sets ab_WR w00 w → only [85] w00 w → (∀ j : Nat, (j : Int) < e.toInt → rL w 85 j = ((if rL w00 74 j = 0 then rL w00 84 j else 0) + smT (fun c => bt (rL w00 74 c) j * (rL w00 84 c / cnt (rL w00 74 c) 64)) (szM w00).toNat) % 18446744073709551616) → aw none (d + 1) 170 Q (46, [some (.ref 65), some (.int f), some (.int n), some (.long a), none, some (.int k), some (.int e), o7], []) w := by
  intro m
  induction m with
  | zero => intro w e o7 p; omega
  | succ m ih =>
    intro w e o7 p1 p2 p3 J O F
    refine aw_step (f1 := (48, [some (.ref 65), some (.int f), some (.int n), some (.long a), none, some (.int k), some (.int e), o7], [(.int e)])) (w1 := w) rfl rfl ?_
    refine aw_step (f1 := (49, [some (.ref 65), some (.int f), some (.int n), some (.long a), none, some (.int k), some (.int e), o7], [(.ref 65), (.int e)])) (w1 := w) rfl rfl ?_
    refine s_cv (z := 113) (p := 65) (as := []) (st1 := [(.int e)]) J 52 rfl rfl rfl rfl rfl rfl rfl rfl (Nat.le_of_ble_eq_true rfl) (Nat.le_of_ble_eq_true rfl) (q_cells J.1) ?_
    rintro _ _ ⟨rfl, x1, rfl, x1t⟩
    refine ⟨rfl, ?_⟩
    show aw none _ 170 _ (52, [some (.ref 65), some (.int f), some (.int n), some (.long a), none, some (.int k), some (.int e), o7], [(.int x1), (.int e)]) w
    have x1s := szM_in J.1
    have zz0 : szM w = szM w00 := O.sz (by decide)
    refine s_ic 157 55 rfl rfl rfl (fun (h2 : x1.toInt ≤ e.toInt) => ?_) (fun (h2 : ¬ (x1.toInt ≤ e.toInt)) => ?_)
    · --
      exact hx w e o7 J O (fun j hj => F j (by omega))
    · --
      refine aw_step (f1 := (56, [some (.ref 65), some (.int f), some (.int n), some (.long a), none, some (.int k), some (.int e), o7], [(.ref 65)])) (w1 := w) rfl rfl ?_
      refine s_gr 85 J 59 rfl rfl rfl rfl rfl rfl ?_
      refine aw_step (f1 := (61, [some (.ref 65), some (.int f), some (.int n), some (.long a), none, some (.int k), some (.int e), o7], [(.int e), (.ref 85)])) (w1 := w) rfl rfl ?_
      refine aw_step (f1 := (62, [some (.ref 65), some (.int f), some (.int n), some (.long a), none, some (.int k), some (.int e), o7], [(.ref 65), (.int e), (.ref 85)])) (w1 := w) rfl rfl ?_
      refine s_gr 74 J 65 rfl rfl rfl rfl rfl rfl ?_
      refine aw_step (f1 := (67, [some (.ref 65), some (.int f), some (.int n), some (.long a), none, some (.int k), some (.int e), o7], [(.int e), (.ref 74), (.int e), (.ref 85)])) (w1 := w) rfl rfl ?_
      refine s_la J 68 rfl rfl rfl (by omega) (by omega) fun y3 y3a y3b y3f => ?_
      have hg : rL w00 74 e.toInt.toNat = n64 y3 := (O.rLe (by decide)).symm.trans (rL_of y3f)
      refine s_l (pc1 := 69) (ls1 := [some (.ref 65), some (.int f), some (.int n), some (.long a), none, some (.int k), some (.int e), o7]) (st1 := [(.long y3), (.int e), (.ref 85)]) rfl rfl fun y4 e5 => ?_
      have e5t : y4.toInt = 0 := by rw [e5]; rfl
      refine s_lc 83 73 70 rfl rfl rfl rfl rfl (fun (h6 : ¬ y3.toInt = y4.toInt) => ?_) (fun (h6 : ¬ (¬ y3.toInt = y4.toInt)) => ?_)
      · --
        refine s_l (pc1 := 84) (ls1 := [some (.ref 65), some (.int f), some (.int n), some (.long a), none, some (.int k), some (.int e), o7]) (st1 := [(.int e), (.ref 85)]) rfl rfl fun y7 e8 => ?_
        have e8t : y7.toInt = 0 := by rw [e8]; rfl
        have y7A := ab_any64 y7
        unfold ab_lo64 ab_hi64 at y7A
        refine s_ls J 85 rfl rfl rfl rfl (by omega) (by omega) (by omega) (by omega) fun w9 J10 w9e => ?_
        have w9f := rL_st J.1 (p := 85) (j := e.toInt.toNat) rfl (by omega) w9e
        refine s_i (pc1 := 86) (ls1 := [some (.ref 65), some (.int f), some (.int n), some (.long a), none, some (.int k), some (.int e), o7]) (st1 := []) rfl rfl fun x11 e12 => ?_
        have e12t : x11.toInt = 0 := by rw [e12]; rfl
        refine aw_step (f1 := (88, [some (.ref 65), some (.int f), some (.int n), some (.long a), none, some (.int k), some (.int e), some (.int x11)], [])) (w1 := w9) rfl rfl ?_
        have O1 := O.trans w9f.1
        have z1 : szM w9 = szM w00 := O1.sz (by decide)
        refine f_c3 f n k e a ⟨by omega, by omega⟩ (fun c hc => by rw [O1.rLe (by decide)]; exact hW c (by omega)) (by omega) (fun wz c9 Jz O9 G9 F9 => ?_) 37 w9 x11 (by omega) (by omega) (by omega) ⟨J10.1, ab_fr.rf⟩ only.rf (fun j _ => rfl) (by rw [show x11.toInt.toNat = 0 by omega]; exact (Nat.mod_eq_of_lt (rL_lto _ _ _)).symm)
        refine aw_step (f1 := (154, [some (.ref 65), some (.int f), some (.int n), some (.long a), none, some (.int k), some (.int (e + Int32.ofInt 1)), some (.int c9)], [])) (w1 := wz) rfl rfl ?_
        obtain ⟨x13, x13e⟩ : ∃ z, z = (e + Int32.ofInt 1) := ⟨_, rfl⟩
        have x13t : x13.toInt = e.toInt + (1) := by rw [x13e]; exact n_add (y := Int32.ofInt (1)) (by show _ ≤ _ + (1 : Int); omega) (by show _ + (1 : Int) ≤ _; omega)
        rw [← x13e]
        refine aw_step (f1 := (46, [some (.ref 65), some (.int f), some (.int n), some (.long a), none, some (.int k), some (.int x13), some (.int c9)], [])) (w1 := wz) rfl rfl ?_
        refine ih wz x13 _ (by omega) (by omega) (by omega) (J10.trans Jz) (O1.trans O9) (fun j hj => ?_)
        have se : ∀ j, smT (fun c => bt (rL w9 74 c) j * (rL w9 84 c / cnt (rL w9 74 c) 64)) (szM w9).toNat = smT (fun c => bt (rL w00 74 c) j * (rL w00 84 c / cnt (rL w00 74 c) 64)) (szM w00).toNat := fun j => by
          rw [z1]
          exact smT_eq fun c hc => by
            show bt (rL w9 74 c) j * (rL w9 84 c / cnt (rL w9 74 c) 64) = bt (rL w00 74 c) j * (rL w00 84 c / cnt (rL w00 74 c) 64)
            rw [O1.rLe (by decide), O1.rLe (by decide)]
        by_cases q : j = e.toInt.toNat
        · rw [q, F9, se, w9f.2.1]
          first
            | rw [if_pos (by rw [hg]; exact n64_z.mp (by omega)), hw]
            | rw [if_neg (by rw [hg]; exact fun u => by have := n64_z.mpr u; omega), n64_z.mp e8t]
        · rw [G9 j q, w9f.2.2 j q]; exact F j (by omega)
      · --
        refine aw_step (f1 := (74, [some (.ref 65), some (.int f), some (.int n), some (.long a), none, some (.int k), some (.int e), o7], [(.ref 65), (.int e), (.ref 85)])) (w1 := w) rfl rfl ?_
        refine s_gr 84 J 77 rfl rfl rfl rfl rfl rfl ?_
        refine aw_step (f1 := (79, [some (.ref 65), some (.int f), some (.int n), some (.long a), none, some (.int k), some (.int e), o7], [(.int e), (.ref 84), (.int e), (.ref 85)])) (w1 := w) rfl rfl ?_
        refine s_la J 80 rfl rfl rfl (by omega) (by omega) fun y14 y14a y14b y14f => ?_
        have hw : rL w00 84 e.toInt.toNat = n64 y14 := (O.rLe (by decide)).symm.trans (rL_of y14f)
        refine aw_step (f1 := (84, [some (.ref 65), some (.int f), some (.int n), some (.long a), none, some (.int k), some (.int e), o7], [(.long y14), (.int e), (.ref 85)])) (w1 := w) rfl rfl ?_
        have y14A := ab_any64 y14
        unfold ab_lo64 ab_hi64 at y14A
        refine s_ls J 85 rfl rfl rfl rfl (by omega) (by omega) (by omega) (by omega) fun w15 J16 w15e => ?_
        have w15f := rL_st J.1 (p := 85) (j := e.toInt.toNat) rfl (by omega) w15e
        refine s_i (pc1 := 86) (ls1 := [some (.ref 65), some (.int f), some (.int n), some (.long a), none, some (.int k), some (.int e), o7]) (st1 := []) rfl rfl fun x17 e18 => ?_
        have e18t : x17.toInt = 0 := by rw [e18]; rfl
        refine aw_step (f1 := (88, [some (.ref 65), some (.int f), some (.int n), some (.long a), none, some (.int k), some (.int e), some (.int x17)], [])) (w1 := w15) rfl rfl ?_
        have O1 := O.trans w15f.1
        have z1 : szM w15 = szM w00 := O1.sz (by decide)
        refine f_c3 f n k e a ⟨by omega, by omega⟩ (fun c hc => by rw [O1.rLe (by decide)]; exact hW c (by omega)) (by omega) (fun wz c9 Jz O9 G9 F9 => ?_) 37 w15 x17 (by omega) (by omega) (by omega) ⟨J16.1, ab_fr.rf⟩ only.rf (fun j _ => rfl) (by rw [show x17.toInt.toNat = 0 by omega]; exact (Nat.mod_eq_of_lt (rL_lto _ _ _)).symm)
        refine aw_step (f1 := (154, [some (.ref 65), some (.int f), some (.int n), some (.long a), none, some (.int k), some (.int (e + Int32.ofInt 1)), some (.int c9)], [])) (w1 := wz) rfl rfl ?_
        obtain ⟨x19, x19e⟩ : ∃ z, z = (e + Int32.ofInt 1) := ⟨_, rfl⟩
        have x19t : x19.toInt = e.toInt + (1) := by rw [x19e]; exact n_add (y := Int32.ofInt (1)) (by show _ ≤ _ + (1 : Int); omega) (by show _ + (1 : Int) ≤ _; omega)
        rw [← x19e]
        refine aw_step (f1 := (46, [some (.ref 65), some (.int f), some (.int n), some (.long a), none, some (.int k), some (.int x19), some (.int c9)], [])) (w1 := wz) rfl rfl ?_
        refine ih wz x19 _ (by omega) (by omega) (by omega) (J16.trans Jz) (O1.trans O9) (fun j hj => ?_)
        have se : ∀ j, smT (fun c => bt (rL w15 74 c) j * (rL w15 84 c / cnt (rL w15 74 c) 64)) (szM w15).toNat = smT (fun c => bt (rL w00 74 c) j * (rL w00 84 c / cnt (rL w00 74 c) 64)) (szM w00).toNat := fun j => by
          rw [z1]
          exact smT_eq fun c hc => by
            show bt (rL w15 74 c) j * (rL w15 84 c / cnt (rL w15 74 c) 64) = bt (rL w00 74 c) j * (rL w00 84 c / cnt (rL w00 74 c) 64)
            rw [O1.rLe (by decide), O1.rLe (by decide)]
        by_cases q : j = e.toInt.toNat
        · rw [q, F9, se, w15f.2.1]
          first
            | rw [if_pos (by rw [hg]; exact n64_z.mp (by omega)), hw]
            | rw [if_neg (by rw [hg]; exact fun u => by have := n64_z.mpr u; omega), n64_z.mp zzt]
        · rw [G9 j q, w15f.2.2 j q]; exact F j (by omega)
theorem f_c4 {d : Nat} {w00 : am_W} {Q : Option Value → am_W → Prop} (f n k : Int32) (a : Int64) (o7 : Option Value) (hx : ∀ (w : am_W) (e : Int32), ab_J ab_TT ab_sets ab_WR w00 w → only [84] w00 w → (∀ j : Nat, (j : Int) < szM w00 → rL w 84 j = rL w00 85 j) → aw none (d + 1) 170 Q (189, [some (.ref 65), some (.int f), some (.int n), some (.long a), none, some (.int k), some (.int e), o7], []) w) : ∀ (m : Nat) (w : am_W) (e : Int32), (36 - e.toInt).toNat < m → 0 ≤ e.toInt → e.toInt ≤ szM w00 → ab_J ab_TT ab_sets ab_WR w00 w → only [84] w00 w → (∀ j : Nat, (j : Int) < e.toInt → rL w 84 j = rL w00 85 j) → aw none (d + 1) 170 Q (160, [some (.ref 65), some (.int f), some (.int n), some (.long a), none, some (.int k), some (.int e), o7], []) w := by
  intro m
  induction m with
  | zero => intro w e p; omega
  | succ m ih =>
    intro w e p1 p2 p3 J O F
    refine aw_step (f1 := (162, [some (.ref 65), some (.int f), some (.int n), some (.long a), none, some (.int k), some (.int e), o7], [(.int e)])) (w1 := w) rfl rfl ?_
    refine aw_step (f1 := (163, [some (.ref 65), some (.int f), some (.int n), some (.long a), none, some (.int k), some (.int e), o7], [(.ref 65), (.int e)])) (w1 := w) rfl rfl ?_
    refine s_cv (z := 113) (p := 65) (as := []) (st1 := [(.int e)]) J 166 rfl rfl rfl rfl rfl rfl rfl rfl (Nat.le_of_ble_eq_true rfl) (Nat.le_of_ble_eq_true rfl) (q_cells J.1) ?_
    rintro _ _ ⟨rfl, x1, rfl, x1t⟩
    refine ⟨rfl, ?_⟩
    show aw none _ 170 _ (166, [some (.ref 65), some (.int f), some (.int n), some (.long a), none, some (.int k), some (.int e), o7], [(.int x1), (.int e)]) w
    have x1s := szM_in J.1
    have zz0 : szM w = szM w00 := O.sz (by decide)
    refine s_ic 189 169 rfl rfl rfl (fun (h2 : x1.toInt ≤ e.toInt) => ?_) (fun (h2 : ¬ (x1.toInt ≤ e.toInt)) => ?_)
    · --
      exact hx w e J O (fun j hj => F j (by omega))
    · --
      refine aw_step (f1 := (170, [some (.ref 65), some (.int f), some (.int n), some (.long a), none, some (.int k), some (.int e), o7], [(.ref 65)])) (w1 := w) rfl rfl ?_
      refine s_gr 84 J 173 rfl rfl rfl rfl rfl rfl ?_
      refine aw_step (f1 := (175, [some (.ref 65), some (.int f), some (.int n), some (.long a), none, some (.int k), some (.int e), o7], [(.int e), (.ref 84)])) (w1 := w) rfl rfl ?_
      refine aw_step (f1 := (176, [some (.ref 65), some (.int f), some (.int n), some (.long a), none, some (.int k), some (.int e), o7], [(.ref 65), (.int e), (.ref 84)])) (w1 := w) rfl rfl ?_
      refine s_gr 85 J 179 rfl rfl rfl rfl rfl rfl ?_
      refine aw_step (f1 := (181, [some (.ref 65), some (.int f), some (.int n), some (.long a), none, some (.int k), some (.int e), o7], [(.int e), (.ref 85), (.int e), (.ref 84)])) (w1 := w) rfl rfl ?_
      refine s_la J 182 rfl rfl rfl (by omega) (by omega) fun y3 y3a y3b y3f => ?_
      have y3A := ab_any64 y3
      unfold ab_lo64 ab_hi64 at y3A
      have hr : rL w00 85 e.toInt.toNat = n64 y3 := (O.rLe (by decide)).symm.trans (rL_of y3f)
      refine s_ls J 183 rfl rfl rfl rfl (by omega) (by omega) (by omega) (by omega) fun w4 J5 w4e => ?_
      have w4f := rL_st J.1 (p := 84) (j := e.toInt.toNat) rfl (by omega) w4e
      refine aw_step (f1 := (186, [some (.ref 65), some (.int f), some (.int n), some (.long a), none, some (.int k), some (.int (e + Int32.ofInt 1)), o7], [])) (w1 := w4) rfl rfl ?_
      obtain ⟨x6, x6e⟩ : ∃ z, z = (e + Int32.ofInt 1) := ⟨_, rfl⟩
      have x6t : x6.toInt = e.toInt + (1) := by rw [x6e]; exact n_add (y := Int32.ofInt (1)) (by show _ ≤ _ + (1 : Int); omega) (by show _ + (1 : Int) ≤ _; omega)
      rw [← x6e]
      refine aw_step (f1 := (160, [some (.ref 65), some (.int f), some (.int n), some (.long a), none, some (.int k), some (.int x6), o7], [])) (w1 := w4) rfl rfl ?_
      refine ih w4 x6 (by omega) (by omega) (by omega) J5 (O.trans w4f.1) (fun j hj => ?_)
      by_cases q : j = e.toInt.toNat
      · rw [q, w4f.2.1, ← hr]
      · rw [w4f.2.2 j q]; exact F j (by omega)
theorem f_c1 {d : Nat} {w00 : am_W} (f n : Int32) (a : Int64) (ha : n64 a < 9223372036854775808) (hn : 0 ≤ n.toInt ∧ n.toInt ≤ 12) (szm : 1 ≤ szM w00 ∧ szM w00 ≤ 36) : ∀ (m : Nat) (w : am_W) (k : Int32) (o6 o7 : Option Value), (n.toInt - k.toInt).toNat < m → 0 ≤ k.toInt → k.toInt ≤ n.toInt → ab_J ab_TT ab_sets ab_WR w00 w → only [84, 85] w00 w → (∀ c : Nat, (c : Int) < szM w00 → rL w 84 c = chT (rL w00 74) (szM w00).toNat f.toInt.toNat (n64 a) k.toInt.toNat c) → aw none (d + 1) 170 (fun r w1 => r = none ∧ ab_J ab_TT ab_sets ab_WR w00 w1 ∧ only [84, 85] w00 w1 ∧ ∀ c : Nat, (c : Int) < szM w00 → rL w1 84 c = chT (rL w00 74) (szM w00).toNat f.toInt.toNat (n64 a) n.toInt.toNat c) (37, [some (.ref 65), some (.int f), some (.int n), some (.long a), none, some (.int k), o6, o7], []) w := by
  intro m
  induction m with
  | zero => intro w k o6 o7 p; omega
  | succ m ih =>
    intro w k o6 o7 p1 p2 p3 J O F
    refine aw_step (f1 := (39, [some (.ref 65), some (.int f), some (.int n), some (.long a), none, some (.int k), o6, o7], [(.int k)])) (w1 := w) rfl rfl ?_
    refine aw_step (f1 := (40, [some (.ref 65), some (.int f), some (.int n), some (.long a), none, some (.int k), o6, o7], [(.int n), (.int k)])) (w1 := w) rfl rfl ?_
    have zz0 : szM w = szM w00 := O.sz (by decide)
    refine s_ic 195 43 rfl rfl rfl (fun (h1 : n.toInt ≤ k.toInt) => ?_) (fun (h1 : ¬ (n.toInt ≤ k.toInt)) => ?_)
    · --
      refine aw_ret (v := none) rfl rfl ?_
      exact ⟨rfl, J, O, fun c hc => by rw [F c hc, show k.toInt.toNat = n.toInt.toNat by omega]⟩
    · --
      refine s_i (pc1 := 44) (ls1 := [some (.ref 65), some (.int f), some (.int n), some (.long a), none, some (.int k), o6, o7]) (st1 := []) rfl rfl fun x2 e3 => ?_
      have e3t : x2.toInt = 0 := by rw [e3]; rfl
      refine aw_step (f1 := (46, [some (.ref 65), some (.int f), some (.int n), some (.long a), none, some (.int k), some (.int x2), o7], [])) (w1 := w) rfl rfl ?_
      refine f_c2 f n k a (fun c hc => by rw [F c (by omega)]; exact Nat.lt_of_le_of_lt (chT_a (by omega) _ (by omega)) ha) (by omega) (fun wa ea o7a Ja Oa Fa => ?_) 37 w x2 _ (by omega) (by omega) (by omega) ⟨J.1, ab_fr.rf⟩ only.rf (fun j hj => by omega)
      have za : szM wa = szM w := Oa.sz (by decide)
      refine s_i (pc1 := 158) (ls1 := [some (.ref 65), some (.int f), some (.int n), some (.long a), none, some (.int k), some (.int ea), o7a]) (st1 := []) rfl rfl fun x4 e5 => ?_
      have e5t : x4.toInt = 0 := by rw [e5]; rfl
      refine aw_step (f1 := (160, [some (.ref 65), some (.int f), some (.int n), some (.long a), none, some (.int k), some (.int x4), o7a], [])) (w1 := wa) rfl rfl ?_
      refine f_c4 f n k a o7a (fun wb eb Jb Ob Fb => ?_) 37 wa x4 (by omega) (by omega) (by omega) ⟨Ja.1, ab_fr.rf⟩ only.rf (fun j hj => by omega)
      refine aw_step (f1 := (192, [some (.ref 65), some (.int f), some (.int n), some (.long a), none, some (.int (k + Int32.ofInt 1)), some (.int eb), o7a], [])) (w1 := wb) rfl rfl ?_
      obtain ⟨x6, x6e⟩ : ∃ z, z = (k + Int32.ofInt 1) := ⟨_, rfl⟩
      have x6t : x6.toInt = k.toInt + (1) := by rw [x6e]; exact n_add (y := Int32.ofInt (1)) (by show _ ≤ _ + (1 : Int); omega) (by show _ + (1 : Int) ≤ _; omega)
      rw [← x6e]
      refine aw_step (f1 := (37, [some (.ref 65), some (.int f), some (.int n), some (.long a), none, some (.int x6), some (.int eb), o7a], [])) (w1 := wb) rfl rfl ?_
      refine ih wb x6 _ _ (by omega) (by omega) (by omega) (J.trans (Ja.trans Jb)) (O.trans ((oc Oa (by decide)).trans (oc Ob (by decide)))) (fun c hc => ?_)
      rw [show x6.toInt.toNat = k.toInt.toNat + 1 by omega, Fb c (by omega), Fa c (by omega), zz0]
      have e1 : smT (fun q => bt (rL w 74 q) c * (rL w 84 q / cnt (rL w 74 q) 64)) (szM w00).toNat = smT (fun q => bt (rL w00 74 q) c * (chT (rL w00 74) (szM w00).toNat f.toInt.toNat (n64 a) k.toInt.toNat q / cnt (rL w00 74 q) 64)) (szM w00).toNat := smT_eq fun q hq => by
        show bt (rL w 74 q) c * (rL w 84 q / cnt (rL w 74 q) 64) = bt (rL w00 74 q) c * (chT (rL w00 74) (szM w00).toNat f.toInt.toNat (n64 a) k.toInt.toNat q / cnt (rL w00 74 q) 64)
        rw [O.rLe (p := 74) (by decide), F q (by omega)]
      rw [e1, O.rLe (p := 74) (by decide), F c hc]
      show chT (rL w00 74) (szM w00).toNat f.toInt.toNat (n64 a) (k.toInt.toNat + 1) c % 18446744073709551616 = _
      exact Nat.mod_eq_of_lt (Nat.lt_trans (Nat.lt_of_le_of_lt (chT_a (by omega) _ (by omega)) ha) (by decide))
theorem f_c0 {d : Nat} {w00 : am_W} (f n : Int32) (a : Int64) (ha : n64 a < 9223372036854775808) (hf : 0 ≤ f.toInt ∧ f.toInt < 36) (hn : 0 ≤ n.toInt ∧ n.toInt ≤ 12) (szm : 1 ≤ szM w00 ∧ szM w00 ≤ 36) : ∀ (m : Nat) (w : am_W) (i : Int32), (36 - i.toInt).toNat < m → 0 ≤ i.toInt → i.toInt ≤ 36 → ab_J ab_TT ab_sets ab_WR w00 w → only [84] w00 w → (∀ c : Nat, (c : Int) < i.toInt → rL w 84 c = if c = f.toInt.toNat then n64 a else 0) → aw none (d + 1) 170 (fun r w1 => r = none ∧ ab_J ab_TT ab_sets ab_WR w00 w1 ∧ only [84, 85] w00 w1 ∧ ∀ c : Nat, (c : Int) < szM w00 → rL w1 84 c = chT (rL w00 74) (szM w00).toNat f.toInt.toNat (n64 a) n.toInt.toNat c) (3, [some (.ref 65), some (.int f), some (.int n), some (.long a), none, some (.int i), none, none], []) w := by
  have aA := ab_any64 a
  unfold ab_lo64 ab_hi64 at aA
  intro m
  induction m with
  | zero => intro w i p; omega
  | succ m ih =>
    intro w i p1 p2 p3 J O F
    refine aw_step (f1 := (5, [some (.ref 65), some (.int f), some (.int n), some (.long a), none, some (.int i), none, none], [(.int i)])) (w1 := w) rfl rfl ?_
    refine s_i (pc1 := 7) (ls1 := [some (.ref 65), some (.int f), some (.int n), some (.long a), none, some (.int i), none, none]) (st1 := [(.int i)]) rfl rfl fun x1 e2 => ?_
    have e2t : x1.toInt = 36 := by rw [e2]; rfl
    refine s_ic 34 10 rfl rfl rfl (fun (h3 : x1.toInt ≤ i.toInt) => ?_) (fun (h3 : ¬ (x1.toInt ≤ i.toInt)) => ?_)
    · --
      refine s_i (pc1 := 35) (ls1 := [some (.ref 65), some (.int f), some (.int n), some (.long a), none, some (.int i), none, none]) (st1 := []) rfl rfl fun x4 e5 => ?_
      have e5t : x4.toInt = 0 := by rw [e5]; rfl
      refine aw_step (f1 := (37, [some (.ref 65), some (.int f), some (.int n), some (.long a), none, some (.int x4), none, none], [])) (w1 := w) rfl rfl ?_
      refine f_c1 f n a ha hn szm 13 w x4 none none (by omega) (by omega) (by omega) J (oc O (by decide)) (fun c hc => ?_)
      rw [F c (by omega), show x4.toInt.toNat = 0 by omega]
      rfl
    · --
      refine aw_step (f1 := (11, [some (.ref 65), some (.int f), some (.int n), some (.long a), none, some (.int i), none, none], [(.ref 65)])) (w1 := w) rfl rfl ?_
      refine s_gr 84 J 14 rfl rfl rfl rfl rfl rfl ?_
      refine aw_step (f1 := (16, [some (.ref 65), some (.int f), some (.int n), some (.long a), none, some (.int i), none, none], [(.int i), (.ref 84)])) (w1 := w) rfl rfl ?_
      refine aw_step (f1 := (18, [some (.ref 65), some (.int f), some (.int n), some (.long a), none, some (.int i), none, none], [(.int i), (.int i), (.ref 84)])) (w1 := w) rfl rfl ?_
      refine aw_step (f1 := (19, [some (.ref 65), some (.int f), some (.int n), some (.long a), none, some (.int i), none, none], [(.int f), (.int i), (.int i), (.ref 84)])) (w1 := w) rfl rfl ?_
      refine s_ic 26 22 rfl rfl rfl (fun (h6 : ¬ i.toInt = f.toInt) => ?_) (fun (h6 : ¬ (¬ i.toInt = f.toInt)) => ?_)
      · --
        refine s_l (pc1 := 27) (ls1 := [some (.ref 65), some (.int f), some (.int n), some (.long a), none, some (.int i), none, none]) (st1 := [(.int i), (.ref 84)]) rfl rfl fun y7 e8 => ?_
        have e8t : y7.toInt = 0 := by rw [e8]; rfl
        refine s_ls J 28 rfl rfl rfl rfl (by omega) (by omega) (by omega) (by omega) fun w9 J10 w9e => ?_
        have w9f := rL_st J.1 (p := 84) (j := i.toInt.toNat) rfl (by omega) w9e
        refine aw_step (f1 := (31, [some (.ref 65), some (.int f), some (.int n), some (.long a), none, some (.int (i + Int32.ofInt 1)), none, none], [])) (w1 := w9) rfl rfl ?_
        obtain ⟨x11, x11e⟩ : ∃ z, z = (i + Int32.ofInt 1) := ⟨_, rfl⟩
        have x11t : x11.toInt = i.toInt + (1) := by rw [x11e]; exact n_add (y := Int32.ofInt (1)) (by show _ ≤ _ + (1 : Int); omega) (by show _ + (1 : Int) ≤ _; omega)
        rw [← x11e]
        refine aw_step (f1 := (3, [some (.ref 65), some (.int f), some (.int n), some (.long a), none, some (.int x11), none, none], [])) (w1 := w9) rfl rfl ?_
        refine ih w9 x11 (by omega) (by omega) (by omega) J10 (O.trans w9f.1) (fun j hj => ?_)
        by_cases q : j = i.toInt.toNat
        · rw [q, w9f.2.1, n64_z.mp e8t]
          first
            | rw [if_pos (by omega)]
            | rw [if_neg (by omega)]
        · rw [w9f.2.2 j q]; exact F j (by omega)
      · --
        refine aw_step (f1 := (23, [some (.ref 65), some (.int f), some (.int n), some (.long a), none, some (.int i), none, none], [(.long a), (.int i), (.ref 84)])) (w1 := w) rfl rfl ?_
        refine aw_step (f1 := (27, [some (.ref 65), some (.int f), some (.int n), some (.long a), none, some (.int i), none, none], [(.long a), (.int i), (.ref 84)])) (w1 := w) rfl rfl ?_
        refine s_ls J 28 rfl rfl rfl rfl (by omega) (by omega) (by omega) (by omega) fun w12 J13 w12e => ?_
        have w12f := rL_st J.1 (p := 84) (j := i.toInt.toNat) rfl (by omega) w12e
        refine aw_step (f1 := (31, [some (.ref 65), some (.int f), some (.int n), some (.long a), none, some (.int (i + Int32.ofInt 1)), none, none], [])) (w1 := w12) rfl rfl ?_
        obtain ⟨x14, x14e⟩ : ∃ z, z = (i + Int32.ofInt 1) := ⟨_, rfl⟩
        have x14t : x14.toInt = i.toInt + (1) := by rw [x14e]; exact n_add (y := Int32.ofInt (1)) (by show _ ≤ _ + (1 : Int); omega) (by show _ + (1 : Int) ≤ _; omega)
        rw [← x14e]
        refine aw_step (f1 := (3, [some (.ref 65), some (.int f), some (.int n), some (.long a), none, some (.int x14), none, none], [])) (w1 := w12) rfl rfl ?_
        refine ih w12 x14 (by omega) (by omega) (by omega) J13 (O.trans w12f.1) (fun j hj => ?_)
        by_cases q : j = i.toInt.toNat
        · rw [q, w12f.2.1]
          first
            | rw [if_pos (by omega)]
            | rw [if_neg (by omega)]
        · rw [w12f.2.2 j q]; exact F j (by omega)
theorem f_findChances {d : Nat} {w : am_W} (f n : Int32) (a : Int64) (ha : n64 a < 9223372036854775808) (hf : 0 ≤ f.toInt ∧ f.toInt < 36) (hn : 0 ≤ n.toInt ∧ n.toInt ≤ 12) (I : ab_inv ab_TT ab_sets w) : aw none (d + 1) 170 (fun r w1 => r = none ∧ ab_J ab_TT ab_sets ab_WR w w1 ∧ only [84, 85] w w1 ∧ ∀ c : Nat, (c : Int) < szM w → rL w1 84 c = chT (rL w 74) (szM w).toNat f.toInt.toNat (n64 a) n.toInt.toNat c) (0, am_entry 170 [.ref 65, .int f, .int n, .long a], []) w := by
  have J : ab_J ab_TT ab_sets ab_WR w w := ⟨I, ab_fr.rf⟩
  show aw none (d + 1) 170 _ (0, [some (.ref 65), some (.int f), some (.int n), some (.long a), none, none, none, none], []) w
  refine s_i (pc1 := 1) (ls1 := [some (.ref 65), some (.int f), some (.int n), some (.long a), none, none, none, none]) (st1 := []) rfl rfl fun x1 e2 => ?_
  have e2t : x1.toInt = 0 := by rw [e2]; rfl
  refine aw_step (f1 := (3, [some (.ref 65), some (.int f), some (.int n), some (.long a), none, some (.int x1), none, none], [])) (w1 := w) rfl rfl ?_
  exact f_c0 f n a ha hf hn (szM_in I) 37 w x1 (by omega) (by omega) (by omega) J only.rf (fun c hc => by omega)
