/-! ===== texts: faults, walks ===== -/
noncomputable def okW (r : Nat → Int) (i : Nat) : Prop := (i % 2 = 0 ∧ ((97 ≤ r i ∧ r i ≤ 102) ∨ r i = 35)) ∨ (i % 2 = 1 ∧ r (i - 1) = 35 ∧ 48 ≤ r i ∧ r i ≤ 51) ∨ (i % 2 = 1 ∧ r (i - 1) ≠ 35 ∧ 48 ≤ r i ∧ r i ≤ 53)
/-- the first fault of a walk of n signs: z -/
noncomputable def fltW (r : Nat → Int) (n z : Int) : Prop := (z = -6 ∧ n % 2 = 0 ∧ ∀ j : Nat, (j : Int) < n → okW r j) ∨ (0 ≤ z ∧ z < n ∧ (∀ j : Nat, (j : Int) < z → okW r j) ∧ ¬ okW r z.toNat) ∨ (z = n ∧ n % 2 = 1 ∧ ∀ j : Nat, (j : Int) < n → okW r j)
noncomputable def okL (r : Nat → Int) (sz : Int) (i : Nat) : Prop := (i : Int) ≠ sz ∧ (r i = 46 ∨ r i = 94 ∨ r i = 126)
noncomputable def fltL (r : Nat → Int) (sz n z : Int) : Prop := (z = -6 ∧ sz ≤ n ∧ ∀ j : Nat, (j : Int) < n → okL r sz j) ∨ (0 ≤ z ∧ z < n ∧ (∀ j : Nat, (j : Int) < z → okL r sz j) ∧ ¬ okL r sz z.toNat) ∨ (z = n ∧ n < sz ∧ ∀ j : Nat, (j : Int) < n → okL r sz j)
theorem q_fWL {d : Nat} {w : am_W} (J : ab_J ab_TT ab_sets ab_WR w w) : ∀ (m : Nat) (i : Int32) (o2 o3 o4 : Option Value), (fI w 65 16 - i.toInt).toNat < m → 0 ≤ i.toInt → i.toInt ≤ fI w 65 16 → (∀ j : Nat, (j : Int) < i.toInt → okW (rI w 73) j) → aw none (d + 1) 122 (fun r w1 => w = w1 ∧ ∃ z : Int32, r = some (.int z) ∧ fltW (rI w 73) (fI w 65 16) z.toInt) (2, [some (.ref 65), some (.int i), o2, o3, o4], []) w := by
  intro m
  induction m with
  | zero => intro i o2 o3 o4 p; omega
  | succ m ih =>
    intro i o2 o3 o4 p1 p2 p3 F
    have nb := fI_in (p := 65) (k := 16) J.1 rfl rfl
    refine aw_step (f1 := (3, [some (.ref 65), some (.int i), o2, o3, o4], [(.int i)])) (w1 := w) rfl rfl ?_
    refine aw_step (f1 := (4, [some (.ref 65), some (.int i), o2, o3, o4], [(.ref 65), (.int i)])) (w1 := w) rfl rfl ?_
    refine s_gi J 7 rfl rfl rfl rfl rfl rfl fun x1 x1a x1b x1f => ?_
    have hn := fI_of x1f
    refine s_ic 114 10 rfl rfl rfl (fun (h2 : x1.toInt ≤ i.toInt) => ?_) (fun (h2 : ¬ (x1.toInt ≤ i.toInt)) => ?_)
    · --
      refine aw_step (f1 := (115, [some (.ref 65), some (.int i), o2, o3, o4], [(.ref 65)])) (w1 := w) rfl rfl ?_
      refine s_gi J 118 rfl rfl rfl rfl rfl rfl fun x3 x3a x3b x3f => ?_
      have hn2 := fI_of x3f
      refine s_i (pc1 := 119) (ls1 := [some (.ref 65), some (.int i), o2, o3, o4]) (st1 := [(.int x3)]) rfl rfl fun x4 e5 => ?_
      have e5t : x4.toInt = 2 := by rw [e5]; rfl
      refine s_dv (f := fun x y => x - x / y * y) 120 rfl rfl (by omega) fun x6 e7 => ?_
      have e7 : x6 = x3 - x3 / x4 * x4 := e7
      have e7t : x6.toInt = x3.toInt % x4.toInt := by rw [e7]; exact n_rem (by omega) (by omega)
      rw [e5t] at e7t
      refine s_i (pc1 := 121) (ls1 := [some (.ref 65), some (.int i), o2, o3, o4]) (st1 := [(.int x6)]) rfl rfl fun x8 e9 => ?_
      have e9t : x8.toInt = 1 := by rw [e9]; rfl
      refine s_ic 131 124 rfl rfl rfl (fun (h10 : ¬ x6.toInt = x8.toInt) => ?_) (fun (h10 : ¬ (¬ x6.toInt = x8.toInt)) => ?_)
      · --
        refine s_i (pc1 := 133) (ls1 := [some (.ref 65), some (.int i), o2, o3, o4]) (st1 := []) rfl rfl fun x11 e12 => ?_
        have e12t : x11.toInt = -6 := by rw [e12]; rfl
        --
        refine aw_ret (v := some (.int x11)) rfl rfl ?_
        first
          | exact ⟨rfl, x11, rfl, Or.inl ⟨by omega, by omega, fun j hj => F j (by omega)⟩⟩
          | exact ⟨rfl, x11, rfl, Or.inr (Or.inr ⟨by omega, by omega, fun j hj => F j (by omega)⟩)⟩
      · --
        refine aw_step (f1 := (125, [some (.ref 65), some (.int i), o2, o3, o4], [(.ref 65)])) (w1 := w) rfl rfl ?_
        refine s_gi J 128 rfl rfl rfl rfl rfl rfl fun x13 x13a x13b x13f => ?_
        have hn3 := fI_of x13f
        refine aw_step (f1 := (133, [some (.ref 65), some (.int i), o2, o3, o4], [(.int x13)])) (w1 := w) rfl rfl ?_
        --
        refine aw_ret (v := some (.int x13)) rfl rfl ?_
        first
          | exact ⟨rfl, x13, rfl, Or.inl ⟨by omega, by omega, fun j hj => F j (by omega)⟩⟩
          | exact ⟨rfl, x13, rfl, Or.inr (Or.inr ⟨by omega, by omega, fun j hj => F j (by omega)⟩)⟩
    · --
      refine aw_step (f1 := (11, [some (.ref 65), some (.int i), o2, o3, o4], [(.ref 65)])) (w1 := w) rfl rfl ?_
      refine s_gr 73 J 14 rfl rfl rfl rfl rfl rfl ?_
      refine aw_step (f1 := (15, [some (.ref 65), some (.int i), o2, o3, o4], [(.int i), (.ref 73)])) (w1 := w) rfl rfl ?_
      refine s_ia J 16 rfl rfl rfl rfl (by omega) (by omega) fun x14 x14a x14b x14f => ?_
      have hr := rI_of x14f
      refine aw_step (f1 := (17, [some (.ref 65), some (.int i), some (.int x14), o3, o4], [])) (w1 := w) rfl rfl ?_
      refine aw_step (f1 := (18, [some (.ref 65), some (.int i), some (.int x14), o3, o4], [(.int i)])) (w1 := w) rfl rfl ?_
      refine s_i (pc1 := 19) (ls1 := [some (.ref 65), some (.int i), some (.int x14), o3, o4]) (st1 := [(.int i)]) rfl rfl fun x15 e16 => ?_
      have e16t : x15.toInt = 2 := by rw [e16]; rfl
      refine s_dv (f := fun x y => x - x / y * y) 20 rfl rfl (by omega) fun x17 e18 => ?_
      have e18 : x17 = i - i / x15 * x15 := e18
      have e18t : x17.toInt = i.toInt % x15.toInt := by rw [e18]; exact n_rem (by omega) (by omega)
      rw [e16t] at e18t
      refine s_if 27 23 rfl rfl rfl (fun (h19 : ¬ x17.toInt = 0) => ?_) (fun (h19 : ¬ (¬ x17.toInt = 0)) => ?_)
      · --
        refine s_i (pc1 := 28) (ls1 := [some (.ref 65), some (.int i), some (.int x14), o3, o4]) (st1 := []) rfl rfl fun x20 e21 => ?_
        have e21t : x20.toInt = 0 := by rw [e21]; rfl
        refine aw_step (f1 := (29, [some (.ref 65), some (.int i), some (.int x14), some (.int x20), o4], [])) (w1 := w) rfl rfl ?_
        refine aw_step (f1 := (30, [some (.ref 65), some (.int i), some (.int x14), some (.int x20), o4], [(.int x20)])) (w1 := w) rfl rfl ?_
        refine s_if 61 33 rfl rfl rfl (fun (h22 : x20.toInt = 0) => ?_) (fun (h22 : ¬ (x20.toInt = 0)) => ?_)
        · --
          refine aw_step (f1 := (62, [some (.ref 65), some (.int i), some (.int x14), some (.int x20), o4], [(.ref 65)])) (w1 := w) rfl rfl ?_
          refine s_gr 73 J 65 rfl rfl rfl rfl rfl rfl ?_
          refine aw_step (f1 := (66, [some (.ref 65), some (.int i), some (.int x14), some (.int x20), o4], [(.int i), (.ref 73)])) (w1 := w) rfl rfl ?_
          refine s_i (pc1 := 67) (ls1 := [some (.ref 65), some (.int i), some (.int x14), some (.int x20), o4]) (st1 := [(.int i), (.ref 73)]) rfl rfl fun x23 e24 => ?_
          have e24t : x23.toInt = 1 := by rw [e24]; rfl
          refine s_i (pc1 := 68) (ls1 := [some (.ref 65), some (.int i), some (.int x14), some (.int x20), o4]) (st1 := [(.ref 73)]) rfl rfl fun x25 e26 => ?_
          have e26 : x25 = i - x23 := e26
          have e26t : x25.toInt = i.toInt - x23.toInt := by rw [e26]; exact n_sub (by omega) (by omega)
          --
          refine s_ia J 69 rfl rfl rfl rfl (by omega) (by omega) fun x27 x27a x27b x27f => ?_
          have hr1 := rI_of x27f
          rw [show x25.toInt.toNat = i.toInt.toNat - 1 by omega] at hr1
          refine s_i (pc1 := 71) (ls1 := [some (.ref 65), some (.int i), some (.int x14), some (.int x20), o4]) (st1 := [(.int x27)]) rfl rfl fun x28 e29 => ?_
          have e29t : x28.toInt = 35 := by rw [e29]; rfl
          refine s_ic 88 74 rfl rfl rfl (fun (h30 : ¬ x27.toInt = x28.toInt) => ?_) (fun (h30 : ¬ (¬ x27.toInt = x28.toInt)) => ?_)
          · --
            refine aw_step (f1 := (89, [some (.ref 65), some (.int i), some (.int x14), some (.int x20), o4], [(.int x14)])) (w1 := w) rfl rfl ?_
            refine s_l (pc1 := 90) (ls1 := [some (.ref 65), some (.int i), some (.int x14), some (.int x20), o4]) (st1 := []) rfl rfl fun y31 e32 => ?_
            have e32t : y31.toInt = x14.toInt := by rw [e32]; exact Int32.toInt_toInt64 x14
            refine s_l (pc1 := 93) (ls1 := [some (.ref 65), some (.int i), some (.int x14), some (.int x20), o4]) (st1 := [(.long y31)]) rfl rfl fun y33 e34 => ?_
            have e34t : y33.toInt = 48 := by rw [e34]; rfl
            refine s_l (pc1 := 96) (ls1 := [some (.ref 65), some (.int i), some (.int x14), some (.int x20), o4]) (st1 := [(.long y33), (.long y31)]) rfl rfl fun y35 e36 => ?_
            have e36t : y35.toInt = 53 := by rw [e36]; rfl
            refine s_cs (z := 108) (as := [(.long y31), (.long y33), (.long y35)]) (st1 := []) 99 rfl rfl rfl rfl rfl rfl (Nat.le_of_ble_eq_true rfl) (Nat.le_of_ble_eq_true rfl) (Nat.le_of_ble_eq_true rfl) (q_in2 y31 y33 y35) ?_
            rintro _ _ ⟨rfl, x37, rfl, x37t⟩
            refine ⟨rfl, ?_⟩
            show aw none _ 122 _ (99, [some (.ref 65), some (.int i), some (.int x14), some (.int x20), o4], [(.int x37)]) w
            refine aw_step (f1 := (101, [some (.ref 65), some (.int i), some (.int x14), some (.int x20), some (.int x37)], [])) (w1 := w) rfl rfl ?_
            refine aw_step (f1 := (103, [some (.ref 65), some (.int i), some (.int x14), some (.int x20), some (.int x37)], [(.int x37)])) (w1 := w) rfl rfl ?_
            refine s_if 108 106 rfl rfl rfl (fun (h38 : ¬ x37.toInt = 0) => ?_) (fun (h38 : ¬ (¬ x37.toInt = 0)) => ?_)
            · --
              refine aw_step (f1 := (111, [some (.ref 65), some (.int (i + Int32.ofInt 1)), some (.int x14), some (.int x20), some (.int x37)], [])) (w1 := w) rfl rfl ?_
              obtain ⟨x39, x39e⟩ : ∃ z, z = (i + Int32.ofInt 1) := ⟨_, rfl⟩
              have x39t : x39.toInt = i.toInt + (1) := by rw [x39e]; exact n_add (y := Int32.ofInt (1)) (by show _ ≤ _ + (1 : Int); omega) (by show _ + (1 : Int) ≤ _; omega)
              rw [← x39e]
              refine aw_step (f1 := (2, [some (.ref 65), some (.int x39), some (.int x14), some (.int x20), some (.int x37)], [])) (w1 := w) rfl rfl ?_
              exact ih x39 _ _ _ (by omega) (by omega) (by omega) (fun j hj => by
                by_cases e : j = i.toInt.toNat
                · rw [e]; unfold okW; omega
                · exact F j (by omega))
            · --
              refine aw_step (f1 := (107, [some (.ref 65), some (.int i), some (.int x14), some (.int x20), some (.int x37)], [(.int i)])) (w1 := w) rfl rfl ?_
              --
              refine aw_ret (v := some (.int i)) rfl rfl ?_
              exact ⟨rfl, i, rfl, Or.inr (Or.inl ⟨by omega, by omega, F, by unfold okW; omega⟩)⟩
          · --
            refine aw_step (f1 := (75, [some (.ref 65), some (.int i), some (.int x14), some (.int x20), o4], [(.int x14)])) (w1 := w) rfl rfl ?_
            refine s_l (pc1 := 76) (ls1 := [some (.ref 65), some (.int i), some (.int x14), some (.int x20), o4]) (st1 := []) rfl rfl fun y40 e41 => ?_
            have e41t : y40.toInt = x14.toInt := by rw [e41]; exact Int32.toInt_toInt64 x14
            refine s_l (pc1 := 79) (ls1 := [some (.ref 65), some (.int i), some (.int x14), some (.int x20), o4]) (st1 := [(.long y40)]) rfl rfl fun y42 e43 => ?_
            have e43t : y42.toInt = 48 := by rw [e43]; rfl
            refine s_l (pc1 := 82) (ls1 := [some (.ref 65), some (.int i), some (.int x14), some (.int x20), o4]) (st1 := [(.long y42), (.long y40)]) rfl rfl fun y44 e45 => ?_
            have e45t : y44.toInt = 51 := by rw [e45]; rfl
            refine s_cs (z := 108) (as := [(.long y40), (.long y42), (.long y44)]) (st1 := []) 85 rfl rfl rfl rfl rfl rfl (Nat.le_of_ble_eq_true rfl) (Nat.le_of_ble_eq_true rfl) (Nat.le_of_ble_eq_true rfl) (q_in2 y40 y42 y44) ?_
            rintro _ _ ⟨rfl, x46, rfl, x46t⟩
            refine ⟨rfl, ?_⟩
            show aw none _ 122 _ (85, [some (.ref 65), some (.int i), some (.int x14), some (.int x20), o4], [(.int x46)]) w
            refine aw_step (f1 := (99, [some (.ref 65), some (.int i), some (.int x14), some (.int x20), o4], [(.int x46)])) (w1 := w) rfl rfl ?_
            refine aw_step (f1 := (101, [some (.ref 65), some (.int i), some (.int x14), some (.int x20), some (.int x46)], [])) (w1 := w) rfl rfl ?_
            refine aw_step (f1 := (103, [some (.ref 65), some (.int i), some (.int x14), some (.int x20), some (.int x46)], [(.int x46)])) (w1 := w) rfl rfl ?_
            refine s_if 108 106 rfl rfl rfl (fun (h47 : ¬ x46.toInt = 0) => ?_) (fun (h47 : ¬ (¬ x46.toInt = 0)) => ?_)
            · --
              refine aw_step (f1 := (111, [some (.ref 65), some (.int (i + Int32.ofInt 1)), some (.int x14), some (.int x20), some (.int x46)], [])) (w1 := w) rfl rfl ?_
              obtain ⟨x48, x48e⟩ : ∃ z, z = (i + Int32.ofInt 1) := ⟨_, rfl⟩
              have x48t : x48.toInt = i.toInt + (1) := by rw [x48e]; exact n_add (y := Int32.ofInt (1)) (by show _ ≤ _ + (1 : Int); omega) (by show _ + (1 : Int) ≤ _; omega)
              rw [← x48e]
              refine aw_step (f1 := (2, [some (.ref 65), some (.int x48), some (.int x14), some (.int x20), some (.int x46)], [])) (w1 := w) rfl rfl ?_
              exact ih x48 _ _ _ (by omega) (by omega) (by omega) (fun j hj => by
                by_cases e : j = i.toInt.toNat
                · rw [e]; unfold okW; omega
                · exact F j (by omega))
            · --
              refine aw_step (f1 := (107, [some (.ref 65), some (.int i), some (.int x14), some (.int x20), some (.int x46)], [(.int i)])) (w1 := w) rfl rfl ?_
              --
              refine aw_ret (v := some (.int i)) rfl rfl ?_
              exact ⟨rfl, i, rfl, Or.inr (Or.inl ⟨by omega, by omega, F, by unfold okW; omega⟩)⟩
        · --
          refine aw_step (f1 := (34, [some (.ref 65), some (.int i), some (.int x14), some (.int x20), o4], [(.int x14)])) (w1 := w) rfl rfl ?_
          refine s_l (pc1 := 35) (ls1 := [some (.ref 65), some (.int i), some (.int x14), some (.int x20), o4]) (st1 := []) rfl rfl fun y49 e50 => ?_
          have e50t : y49.toInt = x14.toInt := by rw [e50]; exact Int32.toInt_toInt64 x14
          refine s_l (pc1 := 38) (ls1 := [some (.ref 65), some (.int i), some (.int x14), some (.int x20), o4]) (st1 := [(.long y49)]) rfl rfl fun y51 e52 => ?_
          have e52t : y51.toInt = 97 := by rw [e52]; rfl
          refine s_l (pc1 := 41) (ls1 := [some (.ref 65), some (.int i), some (.int x14), some (.int x20), o4]) (st1 := [(.long y51), (.long y49)]) rfl rfl fun y53 e54 => ?_
          have e54t : y53.toInt = 102 := by rw [e54]; rfl
          refine s_cs (z := 108) (as := [(.long y49), (.long y51), (.long y53)]) (st1 := []) 44 rfl rfl rfl rfl rfl rfl (Nat.le_of_ble_eq_true rfl) (Nat.le_of_ble_eq_true rfl) (Nat.le_of_ble_eq_true rfl) (q_in2 y49 y51 y53) ?_
          rintro _ _ ⟨rfl, x55, rfl, x55t⟩
          refine ⟨rfl, ?_⟩
          show aw none _ 122 _ (44, [some (.ref 65), some (.int i), some (.int x14), some (.int x20), o4], [(.int x55)]) w
          refine s_if 53 47 rfl rfl rfl (fun (h56 : ¬ x55.toInt = 0) => ?_) (fun (h56 : ¬ (¬ x55.toInt = 0)) => ?_)
          · --
            refine s_i (pc1 := 54) (ls1 := [some (.ref 65), some (.int i), some (.int x14), some (.int x20), o4]) (st1 := []) rfl rfl fun x57 e58 => ?_
            have e58t : x57.toInt = 1 := by rw [e58]; rfl
            refine aw_step (f1 := (99, [some (.ref 65), some (.int i), some (.int x14), some (.int x20), o4], [(.int x57)])) (w1 := w) rfl rfl ?_
            refine aw_step (f1 := (101, [some (.ref 65), some (.int i), some (.int x14), some (.int x20), some (.int x57)], [])) (w1 := w) rfl rfl ?_
            refine aw_step (f1 := (103, [some (.ref 65), some (.int i), some (.int x14), some (.int x20), some (.int x57)], [(.int x57)])) (w1 := w) rfl rfl ?_
            refine s_if 108 106 rfl rfl rfl (fun (h59 : ¬ x57.toInt = 0) => ?_) (fun (h59 : ¬ (¬ x57.toInt = 0)) => ?_)
            · --
              refine aw_step (f1 := (111, [some (.ref 65), some (.int (i + Int32.ofInt 1)), some (.int x14), some (.int x20), some (.int x57)], [])) (w1 := w) rfl rfl ?_
              obtain ⟨x60, x60e⟩ : ∃ z, z = (i + Int32.ofInt 1) := ⟨_, rfl⟩
              have x60t : x60.toInt = i.toInt + (1) := by rw [x60e]; exact n_add (y := Int32.ofInt (1)) (by show _ ≤ _ + (1 : Int); omega) (by show _ + (1 : Int) ≤ _; omega)
              rw [← x60e]
              refine aw_step (f1 := (2, [some (.ref 65), some (.int x60), some (.int x14), some (.int x20), some (.int x57)], [])) (w1 := w) rfl rfl ?_
              exact ih x60 _ _ _ (by omega) (by omega) (by omega) (fun j hj => by
                by_cases e : j = i.toInt.toNat
                · rw [e]; unfold okW; omega
                · exact F j (by omega))
            · --
              refine aw_step (f1 := (107, [some (.ref 65), some (.int i), some (.int x14), some (.int x20), some (.int x57)], [(.int i)])) (w1 := w) rfl rfl ?_
              --
              refine aw_ret (v := some (.int i)) rfl rfl ?_
              exact ⟨rfl, i, rfl, Or.inr (Or.inl ⟨by omega, by omega, F, by unfold okW; omega⟩)⟩
          · --
            refine aw_step (f1 := (48, [some (.ref 65), some (.int i), some (.int x14), some (.int x20), o4], [(.int x14)])) (w1 := w) rfl rfl ?_
            refine s_i (pc1 := 50) (ls1 := [some (.ref 65), some (.int i), some (.int x14), some (.int x20), o4]) (st1 := [(.int x14)]) rfl rfl fun x61 e62 => ?_
            have e62t : x61.toInt = 35 := by rw [e62]; rfl
            refine s_ic 57 53 rfl rfl rfl (fun (h63 : ¬ x14.toInt = x61.toInt) => ?_) (fun (h63 : ¬ (¬ x14.toInt = x61.toInt)) => ?_)
            · --
              refine s_i (pc1 := 58) (ls1 := [some (.ref 65), some (.int i), some (.int x14), some (.int x20), o4]) (st1 := []) rfl rfl fun x64 e65 => ?_
              have e65t : x64.toInt = 0 := by rw [e65]; rfl
              refine aw_step (f1 := (99, [some (.ref 65), some (.int i), some (.int x14), some (.int x20), o4], [(.int x64)])) (w1 := w) rfl rfl ?_
              refine aw_step (f1 := (101, [some (.ref 65), some (.int i), some (.int x14), some (.int x20), some (.int x64)], [])) (w1 := w) rfl rfl ?_
              refine aw_step (f1 := (103, [some (.ref 65), some (.int i), some (.int x14), some (.int x20), some (.int x64)], [(.int x64)])) (w1 := w) rfl rfl ?_
              refine s_if 108 106 rfl rfl rfl (fun (h66 : ¬ x64.toInt = 0) => ?_) (fun (h66 : ¬ (¬ x64.toInt = 0)) => ?_)
              · --
                refine aw_step (f1 := (111, [some (.ref 65), some (.int (i + Int32.ofInt 1)), some (.int x14), some (.int x20), some (.int x64)], [])) (w1 := w) rfl rfl ?_
                obtain ⟨x67, x67e⟩ : ∃ z, z = (i + Int32.ofInt 1) := ⟨_, rfl⟩
                have x67t : x67.toInt = i.toInt + (1) := by rw [x67e]; exact n_add (y := Int32.ofInt (1)) (by show _ ≤ _ + (1 : Int); omega) (by show _ + (1 : Int) ≤ _; omega)
                rw [← x67e]
                refine aw_step (f1 := (2, [some (.ref 65), some (.int x67), some (.int x14), some (.int x20), some (.int x64)], [])) (w1 := w) rfl rfl ?_
                exact ih x67 _ _ _ (by omega) (by omega) (by omega) (fun j hj => by
                  by_cases e : j = i.toInt.toNat
                  · rw [e]; unfold okW; omega
                  · exact F j (by omega))
              · --
                refine aw_step (f1 := (107, [some (.ref 65), some (.int i), some (.int x14), some (.int x20), some (.int x64)], [(.int i)])) (w1 := w) rfl rfl ?_
                --
                refine aw_ret (v := some (.int i)) rfl rfl ?_
                exact ⟨rfl, i, rfl, Or.inr (Or.inl ⟨by omega, by omega, F, by unfold okW; omega⟩)⟩
            · --
              refine s_i (pc1 := 54) (ls1 := [some (.ref 65), some (.int i), some (.int x14), some (.int x20), o4]) (st1 := []) rfl rfl fun x68 e69 => ?_
              have e69t : x68.toInt = 1 := by rw [e69]; rfl
              refine aw_step (f1 := (99, [some (.ref 65), some (.int i), some (.int x14), some (.int x20), o4], [(.int x68)])) (w1 := w) rfl rfl ?_
              refine aw_step (f1 := (101, [some (.ref 65), some (.int i), some (.int x14), some (.int x20), some (.int x68)], [])) (w1 := w) rfl rfl ?_
              refine aw_step (f1 := (103, [some (.ref 65), some (.int i), some (.int x14), some (.int x20), some (.int x68)], [(.int x68)])) (w1 := w) rfl rfl ?_
              refine s_if 108 106 rfl rfl rfl (fun (h70 : ¬ x68.toInt = 0) => ?_) (fun (h70 : ¬ (¬ x68.toInt = 0)) => ?_)
              · --
                refine aw_step (f1 := (111, [some (.ref 65), some (.int (i + Int32.ofInt 1)), some (.int x14), some (.int x20), some (.int x68)], [])) (w1 := w) rfl rfl ?_
                obtain ⟨x71, x71e⟩ : ∃ z, z = (i + Int32.ofInt 1) := ⟨_, rfl⟩
                have x71t : x71.toInt = i.toInt + (1) := by rw [x71e]; exact n_add (y := Int32.ofInt (1)) (by show _ ≤ _ + (1 : Int); omega) (by show _ + (1 : Int) ≤ _; omega)
                rw [← x71e]
                refine aw_step (f1 := (2, [some (.ref 65), some (.int x71), some (.int x14), some (.int x20), some (.int x68)], [])) (w1 := w) rfl rfl ?_
                exact ih x71 _ _ _ (by omega) (by omega) (by omega) (fun j hj => by
                  by_cases e : j = i.toInt.toNat
                  · rw [e]; unfold okW; omega
                  · exact F j (by omega))
              · --
                refine aw_step (f1 := (107, [some (.ref 65), some (.int i), some (.int x14), some (.int x20), some (.int x68)], [(.int i)])) (w1 := w) rfl rfl ?_
                --
                refine aw_ret (v := some (.int i)) rfl rfl ?_
                exact ⟨rfl, i, rfl, Or.inr (Or.inl ⟨by omega, by omega, F, by unfold okW; omega⟩)⟩
      · --
        refine s_i (pc1 := 24) (ls1 := [some (.ref 65), some (.int i), some (.int x14), o3, o4]) (st1 := []) rfl rfl fun x72 e73 => ?_
        have e73t : x72.toInt = 1 := by rw [e73]; rfl
        refine aw_step (f1 := (28, [some (.ref 65), some (.int i), some (.int x14), o3, o4], [(.int x72)])) (w1 := w) rfl rfl ?_
        refine aw_step (f1 := (29, [some (.ref 65), some (.int i), some (.int x14), some (.int x72), o4], [])) (w1 := w) rfl rfl ?_
        refine aw_step (f1 := (30, [some (.ref 65), some (.int i), some (.int x14), some (.int x72), o4], [(.int x72)])) (w1 := w) rfl rfl ?_
        refine s_if 61 33 rfl rfl rfl (fun (h74 : x72.toInt = 0) => ?_) (fun (h74 : ¬ (x72.toInt = 0)) => ?_)
        · --
          refine aw_step (f1 := (62, [some (.ref 65), some (.int i), some (.int x14), some (.int x72), o4], [(.ref 65)])) (w1 := w) rfl rfl ?_
          refine s_gr 73 J 65 rfl rfl rfl rfl rfl rfl ?_
          refine aw_step (f1 := (66, [some (.ref 65), some (.int i), some (.int x14), some (.int x72), o4], [(.int i), (.ref 73)])) (w1 := w) rfl rfl ?_
          refine s_i (pc1 := 67) (ls1 := [some (.ref 65), some (.int i), some (.int x14), some (.int x72), o4]) (st1 := [(.int i), (.ref 73)]) rfl rfl fun x75 e76 => ?_
          have e76t : x75.toInt = 1 := by rw [e76]; rfl
          refine s_i (pc1 := 68) (ls1 := [some (.ref 65), some (.int i), some (.int x14), some (.int x72), o4]) (st1 := [(.ref 73)]) rfl rfl fun x77 e78 => ?_
          have e78 : x77 = i - x75 := e78
          have e78t : x77.toInt = i.toInt - x75.toInt := by rw [e78]; exact n_sub (by omega) (by omega)
          --
          refine s_ia J 69 rfl rfl rfl rfl (by omega) (by omega) fun x79 x79a x79b x79f => ?_
          have hr1 := rI_of x79f
          rw [show x77.toInt.toNat = i.toInt.toNat - 1 by omega] at hr1
          refine s_i (pc1 := 71) (ls1 := [some (.ref 65), some (.int i), some (.int x14), some (.int x72), o4]) (st1 := [(.int x79)]) rfl rfl fun x80 e81 => ?_
          have e81t : x80.toInt = 35 := by rw [e81]; rfl
          refine s_ic 88 74 rfl rfl rfl (fun (h82 : ¬ x79.toInt = x80.toInt) => ?_) (fun (h82 : ¬ (¬ x79.toInt = x80.toInt)) => ?_)
          · --
            refine aw_step (f1 := (89, [some (.ref 65), some (.int i), some (.int x14), some (.int x72), o4], [(.int x14)])) (w1 := w) rfl rfl ?_
            refine s_l (pc1 := 90) (ls1 := [some (.ref 65), some (.int i), some (.int x14), some (.int x72), o4]) (st1 := []) rfl rfl fun y83 e84 => ?_
            have e84t : y83.toInt = x14.toInt := by rw [e84]; exact Int32.toInt_toInt64 x14
            refine s_l (pc1 := 93) (ls1 := [some (.ref 65), some (.int i), some (.int x14), some (.int x72), o4]) (st1 := [(.long y83)]) rfl rfl fun y85 e86 => ?_
            have e86t : y85.toInt = 48 := by rw [e86]; rfl
            refine s_l (pc1 := 96) (ls1 := [some (.ref 65), some (.int i), some (.int x14), some (.int x72), o4]) (st1 := [(.long y85), (.long y83)]) rfl rfl fun y87 e88 => ?_
            have e88t : y87.toInt = 53 := by rw [e88]; rfl
            refine s_cs (z := 108) (as := [(.long y83), (.long y85), (.long y87)]) (st1 := []) 99 rfl rfl rfl rfl rfl rfl (Nat.le_of_ble_eq_true rfl) (Nat.le_of_ble_eq_true rfl) (Nat.le_of_ble_eq_true rfl) (q_in2 y83 y85 y87) ?_
            rintro _ _ ⟨rfl, x89, rfl, x89t⟩
            refine ⟨rfl, ?_⟩
            show aw none _ 122 _ (99, [some (.ref 65), some (.int i), some (.int x14), some (.int x72), o4], [(.int x89)]) w
            refine aw_step (f1 := (101, [some (.ref 65), some (.int i), some (.int x14), some (.int x72), some (.int x89)], [])) (w1 := w) rfl rfl ?_
            refine aw_step (f1 := (103, [some (.ref 65), some (.int i), some (.int x14), some (.int x72), some (.int x89)], [(.int x89)])) (w1 := w) rfl rfl ?_
            refine s_if 108 106 rfl rfl rfl (fun (h90 : ¬ x89.toInt = 0) => ?_) (fun (h90 : ¬ (¬ x89.toInt = 0)) => ?_)
            · --
              refine aw_step (f1 := (111, [some (.ref 65), some (.int (i + Int32.ofInt 1)), some (.int x14), some (.int x72), some (.int x89)], [])) (w1 := w) rfl rfl ?_
              obtain ⟨x91, x91e⟩ : ∃ z, z = (i + Int32.ofInt 1) := ⟨_, rfl⟩
              have x91t : x91.toInt = i.toInt + (1) := by rw [x91e]; exact n_add (y := Int32.ofInt (1)) (by show _ ≤ _ + (1 : Int); omega) (by show _ + (1 : Int) ≤ _; omega)
              rw [← x91e]
              refine aw_step (f1 := (2, [some (.ref 65), some (.int x91), some (.int x14), some (.int x72), some (.int x89)], [])) (w1 := w) rfl rfl ?_
              exact ih x91 _ _ _ (by omega) (by omega) (by omega) (fun j hj => by
                by_cases e : j = i.toInt.toNat
                · rw [e]; unfold okW; omega
                · exact F j (by omega))
            · --
              refine aw_step (f1 := (107, [some (.ref 65), some (.int i), some (.int x14), some (.int x72), some (.int x89)], [(.int i)])) (w1 := w) rfl rfl ?_
              --
              refine aw_ret (v := some (.int i)) rfl rfl ?_
              exact ⟨rfl, i, rfl, Or.inr (Or.inl ⟨by omega, by omega, F, by unfold okW; omega⟩)⟩
          · --
            refine aw_step (f1 := (75, [some (.ref 65), some (.int i), some (.int x14), some (.int x72), o4], [(.int x14)])) (w1 := w) rfl rfl ?_
            refine s_l (pc1 := 76) (ls1 := [some (.ref 65), some (.int i), some (.int x14), some (.int x72), o4]) (st1 := []) rfl rfl fun y92 e93 => ?_
            have e93t : y92.toInt = x14.toInt := by rw [e93]; exact Int32.toInt_toInt64 x14
            refine s_l (pc1 := 79) (ls1 := [some (.ref 65), some (.int i), some (.int x14), some (.int x72), o4]) (st1 := [(.long y92)]) rfl rfl fun y94 e95 => ?_
            have e95t : y94.toInt = 48 := by rw [e95]; rfl
            refine s_l (pc1 := 82) (ls1 := [some (.ref 65), some (.int i), some (.int x14), some (.int x72), o4]) (st1 := [(.long y94), (.long y92)]) rfl rfl fun y96 e97 => ?_
            have e97t : y96.toInt = 51 := by rw [e97]; rfl
            refine s_cs (z := 108) (as := [(.long y92), (.long y94), (.long y96)]) (st1 := []) 85 rfl rfl rfl rfl rfl rfl (Nat.le_of_ble_eq_true rfl) (Nat.le_of_ble_eq_true rfl) (Nat.le_of_ble_eq_true rfl) (q_in2 y92 y94 y96) ?_
            rintro _ _ ⟨rfl, x98, rfl, x98t⟩
            refine ⟨rfl, ?_⟩
            show aw none _ 122 _ (85, [some (.ref 65), some (.int i), some (.int x14), some (.int x72), o4], [(.int x98)]) w
            refine aw_step (f1 := (99, [some (.ref 65), some (.int i), some (.int x14), some (.int x72), o4], [(.int x98)])) (w1 := w) rfl rfl ?_
            refine aw_step (f1 := (101, [some (.ref 65), some (.int i), some (.int x14), some (.int x72), some (.int x98)], [])) (w1 := w) rfl rfl ?_
            refine aw_step (f1 := (103, [some (.ref 65), some (.int i), some (.int x14), some (.int x72), some (.int x98)], [(.int x98)])) (w1 := w) rfl rfl ?_
            refine s_if 108 106 rfl rfl rfl (fun (h99 : ¬ x98.toInt = 0) => ?_) (fun (h99 : ¬ (¬ x98.toInt = 0)) => ?_)
            · --
              refine aw_step (f1 := (111, [some (.ref 65), some (.int (i + Int32.ofInt 1)), some (.int x14), some (.int x72), some (.int x98)], [])) (w1 := w) rfl rfl ?_
              obtain ⟨x100, x100e⟩ : ∃ z, z = (i + Int32.ofInt 1) := ⟨_, rfl⟩
              have x100t : x100.toInt = i.toInt + (1) := by rw [x100e]; exact n_add (y := Int32.ofInt (1)) (by show _ ≤ _ + (1 : Int); omega) (by show _ + (1 : Int) ≤ _; omega)
              rw [← x100e]
              refine aw_step (f1 := (2, [some (.ref 65), some (.int x100), some (.int x14), some (.int x72), some (.int x98)], [])) (w1 := w) rfl rfl ?_
              exact ih x100 _ _ _ (by omega) (by omega) (by omega) (fun j hj => by
                by_cases e : j = i.toInt.toNat
                · rw [e]; unfold okW; omega
                · exact F j (by omega))
            · --
              refine aw_step (f1 := (107, [some (.ref 65), some (.int i), some (.int x14), some (.int x72), some (.int x98)], [(.int i)])) (w1 := w) rfl rfl ?_
              --
              refine aw_ret (v := some (.int i)) rfl rfl ?_
              exact ⟨rfl, i, rfl, Or.inr (Or.inl ⟨by omega, by omega, F, by unfold okW; omega⟩)⟩
        · --
          refine aw_step (f1 := (34, [some (.ref 65), some (.int i), some (.int x14), some (.int x72), o4], [(.int x14)])) (w1 := w) rfl rfl ?_
          refine s_l (pc1 := 35) (ls1 := [some (.ref 65), some (.int i), some (.int x14), some (.int x72), o4]) (st1 := []) rfl rfl fun y101 e102 => ?_
          have e102t : y101.toInt = x14.toInt := by rw [e102]; exact Int32.toInt_toInt64 x14
          refine s_l (pc1 := 38) (ls1 := [some (.ref 65), some (.int i), some (.int x14), some (.int x72), o4]) (st1 := [(.long y101)]) rfl rfl fun y103 e104 => ?_
          have e104t : y103.toInt = 97 := by rw [e104]; rfl
          refine s_l (pc1 := 41) (ls1 := [some (.ref 65), some (.int i), some (.int x14), some (.int x72), o4]) (st1 := [(.long y103), (.long y101)]) rfl rfl fun y105 e106 => ?_
          have e106t : y105.toInt = 102 := by rw [e106]; rfl
          refine s_cs (z := 108) (as := [(.long y101), (.long y103), (.long y105)]) (st1 := []) 44 rfl rfl rfl rfl rfl rfl (Nat.le_of_ble_eq_true rfl) (Nat.le_of_ble_eq_true rfl) (Nat.le_of_ble_eq_true rfl) (q_in2 y101 y103 y105) ?_
          rintro _ _ ⟨rfl, x107, rfl, x107t⟩
          refine ⟨rfl, ?_⟩
          show aw none _ 122 _ (44, [some (.ref 65), some (.int i), some (.int x14), some (.int x72), o4], [(.int x107)]) w
          refine s_if 53 47 rfl rfl rfl (fun (h108 : ¬ x107.toInt = 0) => ?_) (fun (h108 : ¬ (¬ x107.toInt = 0)) => ?_)
          · --
            refine s_i (pc1 := 54) (ls1 := [some (.ref 65), some (.int i), some (.int x14), some (.int x72), o4]) (st1 := []) rfl rfl fun x109 e110 => ?_
            have e110t : x109.toInt = 1 := by rw [e110]; rfl
            refine aw_step (f1 := (99, [some (.ref 65), some (.int i), some (.int x14), some (.int x72), o4], [(.int x109)])) (w1 := w) rfl rfl ?_
            refine aw_step (f1 := (101, [some (.ref 65), some (.int i), some (.int x14), some (.int x72), some (.int x109)], [])) (w1 := w) rfl rfl ?_
            refine aw_step (f1 := (103, [some (.ref 65), some (.int i), some (.int x14), some (.int x72), some (.int x109)], [(.int x109)])) (w1 := w) rfl rfl ?_
            refine s_if 108 106 rfl rfl rfl (fun (h111 : ¬ x109.toInt = 0) => ?_) (fun (h111 : ¬ (¬ x109.toInt = 0)) => ?_)
            · --
              refine aw_step (f1 := (111, [some (.ref 65), some (.int (i + Int32.ofInt 1)), some (.int x14), some (.int x72), some (.int x109)], [])) (w1 := w) rfl rfl ?_
              obtain ⟨x112, x112e⟩ : ∃ z, z = (i + Int32.ofInt 1) := ⟨_, rfl⟩
              have x112t : x112.toInt = i.toInt + (1) := by rw [x112e]; exact n_add (y := Int32.ofInt (1)) (by show _ ≤ _ + (1 : Int); omega) (by show _ + (1 : Int) ≤ _; omega)
              rw [← x112e]
              refine aw_step (f1 := (2, [some (.ref 65), some (.int x112), some (.int x14), some (.int x72), some (.int x109)], [])) (w1 := w) rfl rfl ?_
              exact ih x112 _ _ _ (by omega) (by omega) (by omega) (fun j hj => by
                by_cases e : j = i.toInt.toNat
                · rw [e]; unfold okW; omega
                · exact F j (by omega))
            · --
              refine aw_step (f1 := (107, [some (.ref 65), some (.int i), some (.int x14), some (.int x72), some (.int x109)], [(.int i)])) (w1 := w) rfl rfl ?_
              --
              refine aw_ret (v := some (.int i)) rfl rfl ?_
              exact ⟨rfl, i, rfl, Or.inr (Or.inl ⟨by omega, by omega, F, by unfold okW; omega⟩)⟩
          · --
            refine aw_step (f1 := (48, [some (.ref 65), some (.int i), some (.int x14), some (.int x72), o4], [(.int x14)])) (w1 := w) rfl rfl ?_
            refine s_i (pc1 := 50) (ls1 := [some (.ref 65), some (.int i), some (.int x14), some (.int x72), o4]) (st1 := [(.int x14)]) rfl rfl fun x113 e114 => ?_
            have e114t : x113.toInt = 35 := by rw [e114]; rfl
            refine s_ic 57 53 rfl rfl rfl (fun (h115 : ¬ x14.toInt = x113.toInt) => ?_) (fun (h115 : ¬ (¬ x14.toInt = x113.toInt)) => ?_)
            · --
              refine s_i (pc1 := 58) (ls1 := [some (.ref 65), some (.int i), some (.int x14), some (.int x72), o4]) (st1 := []) rfl rfl fun x116 e117 => ?_
              have e117t : x116.toInt = 0 := by rw [e117]; rfl
              refine aw_step (f1 := (99, [some (.ref 65), some (.int i), some (.int x14), some (.int x72), o4], [(.int x116)])) (w1 := w) rfl rfl ?_
              refine aw_step (f1 := (101, [some (.ref 65), some (.int i), some (.int x14), some (.int x72), some (.int x116)], [])) (w1 := w) rfl rfl ?_
              refine aw_step (f1 := (103, [some (.ref 65), some (.int i), some (.int x14), some (.int x72), some (.int x116)], [(.int x116)])) (w1 := w) rfl rfl ?_
              refine s_if 108 106 rfl rfl rfl (fun (h118 : ¬ x116.toInt = 0) => ?_) (fun (h118 : ¬ (¬ x116.toInt = 0)) => ?_)
              · --
                refine aw_step (f1 := (111, [some (.ref 65), some (.int (i + Int32.ofInt 1)), some (.int x14), some (.int x72), some (.int x116)], [])) (w1 := w) rfl rfl ?_
                obtain ⟨x119, x119e⟩ : ∃ z, z = (i + Int32.ofInt 1) := ⟨_, rfl⟩
                have x119t : x119.toInt = i.toInt + (1) := by rw [x119e]; exact n_add (y := Int32.ofInt (1)) (by show _ ≤ _ + (1 : Int); omega) (by show _ + (1 : Int) ≤ _; omega)
                rw [← x119e]
                refine aw_step (f1 := (2, [some (.ref 65), some (.int x119), some (.int x14), some (.int x72), some (.int x116)], [])) (w1 := w) rfl rfl ?_
                exact ih x119 _ _ _ (by omega) (by omega) (by omega) (fun j hj => by
                  by_cases e : j = i.toInt.toNat
                  · rw [e]; unfold okW; omega
                  · exact F j (by omega))
              · --
                refine aw_step (f1 := (107, [some (.ref 65), some (.int i), some (.int x14), some (.int x72), some (.int x116)], [(.int i)])) (w1 := w) rfl rfl ?_
                --
                refine aw_ret (v := some (.int i)) rfl rfl ?_
                exact ⟨rfl, i, rfl, Or.inr (Or.inl ⟨by omega, by omega, F, by unfold okW; omega⟩)⟩
            · --
              refine s_i (pc1 := 54) (ls1 := [some (.ref 65), some (.int i), some (.int x14), some (.int x72), o4]) (st1 := []) rfl rfl fun x120 e121 => ?_
              have e121t : x120.toInt = 1 := by rw [e121]; rfl
              refine aw_step (f1 := (99, [some (.ref 65), some (.int i), some (.int x14), some (.int x72), o4], [(.int x120)])) (w1 := w) rfl rfl ?_
              refine aw_step (f1 := (101, [some (.ref 65), some (.int i), some (.int x14), some (.int x72), some (.int x120)], [])) (w1 := w) rfl rfl ?_
              refine aw_step (f1 := (103, [some (.ref 65), some (.int i), some (.int x14), some (.int x72), some (.int x120)], [(.int x120)])) (w1 := w) rfl rfl ?_
              refine s_if 108 106 rfl rfl rfl (fun (h122 : ¬ x120.toInt = 0) => ?_) (fun (h122 : ¬ (¬ x120.toInt = 0)) => ?_)
              · --
                refine aw_step (f1 := (111, [some (.ref 65), some (.int (i + Int32.ofInt 1)), some (.int x14), some (.int x72), some (.int x120)], [])) (w1 := w) rfl rfl ?_
                obtain ⟨x123, x123e⟩ : ∃ z, z = (i + Int32.ofInt 1) := ⟨_, rfl⟩
                have x123t : x123.toInt = i.toInt + (1) := by rw [x123e]; exact n_add (y := Int32.ofInt (1)) (by show _ ≤ _ + (1 : Int); omega) (by show _ + (1 : Int) ≤ _; omega)
                rw [← x123e]
                refine aw_step (f1 := (2, [some (.ref 65), some (.int x123), some (.int x14), some (.int x72), some (.int x120)], [])) (w1 := w) rfl rfl ?_
                exact ih x123 _ _ _ (by omega) (by omega) (by omega) (fun j hj => by
                  by_cases e : j = i.toInt.toNat
                  · rw [e]; unfold okW; omega
                  · exact F j (by omega))
              · --
                refine aw_step (f1 := (107, [some (.ref 65), some (.int i), some (.int x14), some (.int x72), some (.int x120)], [(.int i)])) (w1 := w) rfl rfl ?_
                --
                refine aw_ret (v := some (.int i)) rfl rfl ?_
                exact ⟨rfl, i, rfl, Or.inr (Or.inl ⟨by omega, by omega, F, by unfold okW; omega⟩)⟩
theorem q_faultOfWalk {d : Nat} {w : am_W} (I : ab_inv ab_TT ab_sets w) : aw none (d + 1) 122 (fun r w1 => w = w1 ∧ ∃ z : Int32, r = some (.int z) ∧ fltW (rI w 73) (fI w 65 16) z.toInt) (0, am_entry 122 [.ref 65], []) w := by
  have J : ab_J ab_TT ab_sets ab_WR w w := ⟨I, ab_fr.rf⟩
  have nb := fI_in (p := 65) (k := 16) I rfl rfl
  show aw none (d + 1) 122 _ (0, [some (.ref 65), none, none, none, none], []) w
  refine s_i (pc1 := 1) (ls1 := [some (.ref 65), none, none, none, none]) (st1 := []) rfl rfl fun x1 e2 => ?_
  have e2t : x1.toInt = 0 := by rw [e2]; rfl
  refine aw_step (f1 := (2, [some (.ref 65), some (.int x1), none, none, none], [])) (w1 := w) rfl rfl ?_
  exact q_fWL J 61 x1 _ _ _ (by omega) (by omega) (by omega) (fun j hj => by omega)
theorem q_fLL {d : Nat} {w : am_W} (J : ab_J ab_TT ab_sets ab_WR w w) : ∀ (m : Nat) (i : Int32) (o2 : Option Value), (fI w 65 16 - i.toInt).toNat < m → 0 ≤ i.toInt → i.toInt ≤ fI w 65 16 → (∀ j : Nat, (j : Int) < i.toInt → okL (rI w 73) (szM w) j) → aw none (d + 1) 121 (fun r w1 => w = w1 ∧ ∃ z : Int32, r = some (.int z) ∧ fltL (rI w 73) (szM w) (fI w 65 16) z.toInt) (2, [some (.ref 65), some (.int i), o2], []) w := by
  intro m
  induction m with
  | zero => intro i o2 p; omega
  | succ m ih =>
    intro i o2 p1 p2 p3 F
    have nb := fI_in (p := 65) (k := 16) J.1 rfl rfl
    refine aw_step (f1 := (3, [some (.ref 65), some (.int i), o2], [(.int i)])) (w1 := w) rfl rfl ?_
    refine aw_step (f1 := (4, [some (.ref 65), some (.int i), o2], [(.ref 65), (.int i)])) (w1 := w) rfl rfl ?_
    refine s_gi J 7 rfl rfl rfl rfl rfl rfl fun x1 x1a x1b x1f => ?_
    have hn := fI_of x1f
    refine s_ic 69 10 rfl rfl rfl (fun (h2 : x1.toInt ≤ i.toInt) => ?_) (fun (h2 : ¬ (x1.toInt ≤ i.toInt)) => ?_)
    · --
      refine aw_step (f1 := (70, [some (.ref 65), some (.int i), o2], [(.ref 65)])) (w1 := w) rfl rfl ?_
      refine s_gi J 73 rfl rfl rfl rfl rfl rfl fun x3 x3a x3b x3f => ?_
      have hn2 := fI_of x3f
      refine aw_step (f1 := (74, [some (.ref 65), some (.int i), o2], [(.ref 65), (.int x3)])) (w1 := w) rfl rfl ?_
      refine s_cv (z := 113) (p := 65) (as := []) (st1 := [(.int x3)]) J 77 rfl rfl rfl rfl rfl rfl rfl rfl (Nat.le_of_ble_eq_true rfl) (Nat.le_of_ble_eq_true rfl) (q_cells J.1) ?_
      rintro _ _ ⟨rfl, x4, rfl, x4t⟩
      refine ⟨rfl, ?_⟩
      show aw none _ 121 _ (77, [some (.ref 65), some (.int i), o2], [(.int x4), (.int x3)]) w
      have x4s := szM_in J.1
      refine s_ic 87 80 rfl rfl rfl (fun (h5 : x4.toInt ≤ x3.toInt) => ?_) (fun (h5 : ¬ (x4.toInt ≤ x3.toInt)) => ?_)
      · --
        refine s_i (pc1 := 89) (ls1 := [some (.ref 65), some (.int i), o2]) (st1 := []) rfl rfl fun x6 e7 => ?_
        have e7t : x6.toInt = -6 := by rw [e7]; rfl
        --
        refine aw_ret (v := some (.int x6)) rfl rfl ?_
        first
          | exact ⟨rfl, x6, rfl, Or.inl ⟨by omega, by omega, fun j hj => F j (by omega)⟩⟩
          | exact ⟨rfl, x6, rfl, Or.inr (Or.inr ⟨by omega, by omega, fun j hj => F j (by omega)⟩)⟩
      · --
        refine aw_step (f1 := (81, [some (.ref 65), some (.int i), o2], [(.ref 65)])) (w1 := w) rfl rfl ?_
        refine s_gi J 84 rfl rfl rfl rfl rfl rfl fun x8 x8a x8b x8f => ?_
        have hn3 := fI_of x8f
        refine aw_step (f1 := (89, [some (.ref 65), some (.int i), o2], [(.int x8)])) (w1 := w) rfl rfl ?_
        --
        refine aw_ret (v := some (.int x8)) rfl rfl ?_
        first
          | exact ⟨rfl, x8, rfl, Or.inl ⟨by omega, by omega, fun j hj => F j (by omega)⟩⟩
          | exact ⟨rfl, x8, rfl, Or.inr (Or.inr ⟨by omega, by omega, fun j hj => F j (by omega)⟩)⟩
    · --
      refine aw_step (f1 := (11, [some (.ref 65), some (.int i), o2], [(.ref 65)])) (w1 := w) rfl rfl ?_
      refine s_gr 73 J 14 rfl rfl rfl rfl rfl rfl ?_
      refine aw_step (f1 := (15, [some (.ref 65), some (.int i), o2], [(.int i), (.ref 73)])) (w1 := w) rfl rfl ?_
      refine s_ia J 16 rfl rfl rfl rfl (by omega) (by omega) fun x9 x9a x9b x9f => ?_
      have hr := rI_of x9f
      refine s_i (pc1 := 18) (ls1 := [some (.ref 65), some (.int i), o2]) (st1 := [(.int x9)]) rfl rfl fun x10 e11 => ?_
      have e11t : x10.toInt = 46 := by rw [e11]; rfl
      refine s_ic 43 21 rfl rfl rfl (fun (h12 : x9.toInt = x10.toInt) => ?_) (fun (h12 : ¬ (x9.toInt = x10.toInt)) => ?_)
      · --
        refine s_i (pc1 := 44) (ls1 := [some (.ref 65), some (.int i), o2]) (st1 := []) rfl rfl fun x13 e14 => ?_
        have e14t : x13.toInt = 1 := by rw [e14]; rfl
        refine aw_step (f1 := (48, [some (.ref 65), some (.int i), o2], [(.int x13)])) (w1 := w) rfl rfl ?_
        refine aw_step (f1 := (49, [some (.ref 65), some (.int i), some (.int x13)], [])) (w1 := w) rfl rfl ?_
        refine aw_step (f1 := (50, [some (.ref 65), some (.int i), some (.int x13)], [(.int i)])) (w1 := w) rfl rfl ?_
        refine aw_step (f1 := (51, [some (.ref 65), some (.int i), some (.int x13)], [(.ref 65), (.int i)])) (w1 := w) rfl rfl ?_
        refine s_cv (z := 113) (p := 65) (as := []) (st1 := [(.int i)]) J 54 rfl rfl rfl rfl rfl rfl rfl rfl (Nat.le_of_ble_eq_true rfl) (Nat.le_of_ble_eq_true rfl) (q_cells J.1) ?_
        rintro _ _ ⟨rfl, x15, rfl, x15t⟩
        refine ⟨rfl, ?_⟩
        show aw none _ 121 _ (54, [some (.ref 65), some (.int i), some (.int x13)], [(.int x15), (.int i)]) w
        have x15s := szM_in J.1
        refine s_ic 61 57 rfl rfl rfl (fun (h16 : i.toInt = x15.toInt) => ?_) (fun (h16 : ¬ (i.toInt = x15.toInt)) => ?_)
        · --
          refine aw_step (f1 := (62, [some (.ref 65), some (.int i), some (.int x13)], [(.int i)])) (w1 := w) rfl rfl ?_
          --
          refine aw_ret (v := some (.int i)) rfl rfl ?_
          exact ⟨rfl, i, rfl, Or.inr (Or.inl ⟨by omega, by omega, F, by unfold okL; omega⟩)⟩
        · --
          refine aw_step (f1 := (58, [some (.ref 65), some (.int i), some (.int x13)], [(.int x13)])) (w1 := w) rfl rfl ?_
          refine s_if 63 61 rfl rfl rfl (fun (h17 : ¬ x13.toInt = 0) => ?_) (fun (h17 : ¬ (¬ x13.toInt = 0)) => ?_)
          · --
            refine aw_step (f1 := (66, [some (.ref 65), some (.int (i + Int32.ofInt 1)), some (.int x13)], [])) (w1 := w) rfl rfl ?_
            obtain ⟨x18, x18e⟩ : ∃ z, z = (i + Int32.ofInt 1) := ⟨_, rfl⟩
            have x18t : x18.toInt = i.toInt + (1) := by rw [x18e]; exact n_add (y := Int32.ofInt (1)) (by show _ ≤ _ + (1 : Int); omega) (by show _ + (1 : Int) ≤ _; omega)
            rw [← x18e]
            refine aw_step (f1 := (2, [some (.ref 65), some (.int x18), some (.int x13)], [])) (w1 := w) rfl rfl ?_
            exact ih x18 _ (by omega) (by omega) (by omega) (fun j hj => by
              by_cases e : j = i.toInt.toNat
              · rw [e]; unfold okL; omega
              · exact F j (by omega))
          · --
            refine aw_step (f1 := (62, [some (.ref 65), some (.int i), some (.int x13)], [(.int i)])) (w1 := w) rfl rfl ?_
            --
            refine aw_ret (v := some (.int i)) rfl rfl ?_
            exact ⟨rfl, i, rfl, Or.inr (Or.inl ⟨by omega, by omega, F, by unfold okL; omega⟩)⟩
      · --
        refine aw_step (f1 := (22, [some (.ref 65), some (.int i), o2], [(.ref 65)])) (w1 := w) rfl rfl ?_
        refine s_gr 73 J 25 rfl rfl rfl rfl rfl rfl ?_
        refine aw_step (f1 := (26, [some (.ref 65), some (.int i), o2], [(.int i), (.ref 73)])) (w1 := w) rfl rfl ?_
        refine s_ia J 27 rfl rfl rfl rfl (by omega) (by omega) fun x19 x19a x19b x19f => ?_
        have hr2 := rI_of x19f
        refine s_i (pc1 := 29) (ls1 := [some (.ref 65), some (.int i), o2]) (st1 := [(.int x19)]) rfl rfl fun x20 e21 => ?_
        have e21t : x20.toInt = 94 := by rw [e21]; rfl
        refine s_ic 43 32 rfl rfl rfl (fun (h22 : x19.toInt = x20.toInt) => ?_) (fun (h22 : ¬ (x19.toInt = x20.toInt)) => ?_)
        · --
          refine s_i (pc1 := 44) (ls1 := [some (.ref 65), some (.int i), o2]) (st1 := []) rfl rfl fun x23 e24 => ?_
          have e24t : x23.toInt = 1 := by rw [e24]; rfl
          refine aw_step (f1 := (48, [some (.ref 65), some (.int i), o2], [(.int x23)])) (w1 := w) rfl rfl ?_
          refine aw_step (f1 := (49, [some (.ref 65), some (.int i), some (.int x23)], [])) (w1 := w) rfl rfl ?_
          refine aw_step (f1 := (50, [some (.ref 65), some (.int i), some (.int x23)], [(.int i)])) (w1 := w) rfl rfl ?_
          refine aw_step (f1 := (51, [some (.ref 65), some (.int i), some (.int x23)], [(.ref 65), (.int i)])) (w1 := w) rfl rfl ?_
          refine s_cv (z := 113) (p := 65) (as := []) (st1 := [(.int i)]) J 54 rfl rfl rfl rfl rfl rfl rfl rfl (Nat.le_of_ble_eq_true rfl) (Nat.le_of_ble_eq_true rfl) (q_cells J.1) ?_
          rintro _ _ ⟨rfl, x25, rfl, x25t⟩
          refine ⟨rfl, ?_⟩
          show aw none _ 121 _ (54, [some (.ref 65), some (.int i), some (.int x23)], [(.int x25), (.int i)]) w
          have x25s := szM_in J.1
          refine s_ic 61 57 rfl rfl rfl (fun (h26 : i.toInt = x25.toInt) => ?_) (fun (h26 : ¬ (i.toInt = x25.toInt)) => ?_)
          · --
            refine aw_step (f1 := (62, [some (.ref 65), some (.int i), some (.int x23)], [(.int i)])) (w1 := w) rfl rfl ?_
            --
            refine aw_ret (v := some (.int i)) rfl rfl ?_
            exact ⟨rfl, i, rfl, Or.inr (Or.inl ⟨by omega, by omega, F, by unfold okL; omega⟩)⟩
          · --
            refine aw_step (f1 := (58, [some (.ref 65), some (.int i), some (.int x23)], [(.int x23)])) (w1 := w) rfl rfl ?_
            refine s_if 63 61 rfl rfl rfl (fun (h27 : ¬ x23.toInt = 0) => ?_) (fun (h27 : ¬ (¬ x23.toInt = 0)) => ?_)
            · --
              refine aw_step (f1 := (66, [some (.ref 65), some (.int (i + Int32.ofInt 1)), some (.int x23)], [])) (w1 := w) rfl rfl ?_
              obtain ⟨x28, x28e⟩ : ∃ z, z = (i + Int32.ofInt 1) := ⟨_, rfl⟩
              have x28t : x28.toInt = i.toInt + (1) := by rw [x28e]; exact n_add (y := Int32.ofInt (1)) (by show _ ≤ _ + (1 : Int); omega) (by show _ + (1 : Int) ≤ _; omega)
              rw [← x28e]
              refine aw_step (f1 := (2, [some (.ref 65), some (.int x28), some (.int x23)], [])) (w1 := w) rfl rfl ?_
              exact ih x28 _ (by omega) (by omega) (by omega) (fun j hj => by
                by_cases e : j = i.toInt.toNat
                · rw [e]; unfold okL; omega
                · exact F j (by omega))
            · --
              refine aw_step (f1 := (62, [some (.ref 65), some (.int i), some (.int x23)], [(.int i)])) (w1 := w) rfl rfl ?_
              --
              refine aw_ret (v := some (.int i)) rfl rfl ?_
              exact ⟨rfl, i, rfl, Or.inr (Or.inl ⟨by omega, by omega, F, by unfold okL; omega⟩)⟩
        · --
          refine aw_step (f1 := (33, [some (.ref 65), some (.int i), o2], [(.ref 65)])) (w1 := w) rfl rfl ?_
          refine s_gr 73 J 36 rfl rfl rfl rfl rfl rfl ?_
          refine aw_step (f1 := (37, [some (.ref 65), some (.int i), o2], [(.int i), (.ref 73)])) (w1 := w) rfl rfl ?_
          refine s_ia J 38 rfl rfl rfl rfl (by omega) (by omega) fun x29 x29a x29b x29f => ?_
          have hr3 := rI_of x29f
          refine s_i (pc1 := 40) (ls1 := [some (.ref 65), some (.int i), o2]) (st1 := [(.int x29)]) rfl rfl fun x30 e31 => ?_
          have e31t : x30.toInt = 126 := by rw [e31]; rfl
          refine s_ic 47 43 rfl rfl rfl (fun (h32 : ¬ x29.toInt = x30.toInt) => ?_) (fun (h32 : ¬ (¬ x29.toInt = x30.toInt)) => ?_)
          · --
            refine s_i (pc1 := 48) (ls1 := [some (.ref 65), some (.int i), o2]) (st1 := []) rfl rfl fun x33 e34 => ?_
            have e34t : x33.toInt = 0 := by rw [e34]; rfl
            refine aw_step (f1 := (49, [some (.ref 65), some (.int i), some (.int x33)], [])) (w1 := w) rfl rfl ?_
            refine aw_step (f1 := (50, [some (.ref 65), some (.int i), some (.int x33)], [(.int i)])) (w1 := w) rfl rfl ?_
            refine aw_step (f1 := (51, [some (.ref 65), some (.int i), some (.int x33)], [(.ref 65), (.int i)])) (w1 := w) rfl rfl ?_
            refine s_cv (z := 113) (p := 65) (as := []) (st1 := [(.int i)]) J 54 rfl rfl rfl rfl rfl rfl rfl rfl (Nat.le_of_ble_eq_true rfl) (Nat.le_of_ble_eq_true rfl) (q_cells J.1) ?_
            rintro _ _ ⟨rfl, x35, rfl, x35t⟩
            refine ⟨rfl, ?_⟩
            show aw none _ 121 _ (54, [some (.ref 65), some (.int i), some (.int x33)], [(.int x35), (.int i)]) w
            have x35s := szM_in J.1
            refine s_ic 61 57 rfl rfl rfl (fun (h36 : i.toInt = x35.toInt) => ?_) (fun (h36 : ¬ (i.toInt = x35.toInt)) => ?_)
            · --
              refine aw_step (f1 := (62, [some (.ref 65), some (.int i), some (.int x33)], [(.int i)])) (w1 := w) rfl rfl ?_
              --
              refine aw_ret (v := some (.int i)) rfl rfl ?_
              exact ⟨rfl, i, rfl, Or.inr (Or.inl ⟨by omega, by omega, F, by unfold okL; omega⟩)⟩
            · --
              refine aw_step (f1 := (58, [some (.ref 65), some (.int i), some (.int x33)], [(.int x33)])) (w1 := w) rfl rfl ?_
              refine s_if 63 61 rfl rfl rfl (fun (h37 : ¬ x33.toInt = 0) => ?_) (fun (h37 : ¬ (¬ x33.toInt = 0)) => ?_)
              · --
                refine aw_step (f1 := (66, [some (.ref 65), some (.int (i + Int32.ofInt 1)), some (.int x33)], [])) (w1 := w) rfl rfl ?_
                obtain ⟨x38, x38e⟩ : ∃ z, z = (i + Int32.ofInt 1) := ⟨_, rfl⟩
                have x38t : x38.toInt = i.toInt + (1) := by rw [x38e]; exact n_add (y := Int32.ofInt (1)) (by show _ ≤ _ + (1 : Int); omega) (by show _ + (1 : Int) ≤ _; omega)
                rw [← x38e]
                refine aw_step (f1 := (2, [some (.ref 65), some (.int x38), some (.int x33)], [])) (w1 := w) rfl rfl ?_
                exact ih x38 _ (by omega) (by omega) (by omega) (fun j hj => by
                  by_cases e : j = i.toInt.toNat
                  · rw [e]; unfold okL; omega
                  · exact F j (by omega))
              · --
                refine aw_step (f1 := (62, [some (.ref 65), some (.int i), some (.int x33)], [(.int i)])) (w1 := w) rfl rfl ?_
                --
                refine aw_ret (v := some (.int i)) rfl rfl ?_
                exact ⟨rfl, i, rfl, Or.inr (Or.inl ⟨by omega, by omega, F, by unfold okL; omega⟩)⟩
          · --
            refine s_i (pc1 := 44) (ls1 := [some (.ref 65), some (.int i), o2]) (st1 := []) rfl rfl fun x39 e40 => ?_
            have e40t : x39.toInt = 1 := by rw [e40]; rfl
            refine aw_step (f1 := (48, [some (.ref 65), some (.int i), o2], [(.int x39)])) (w1 := w) rfl rfl ?_
            refine aw_step (f1 := (49, [some (.ref 65), some (.int i), some (.int x39)], [])) (w1 := w) rfl rfl ?_
            refine aw_step (f1 := (50, [some (.ref 65), some (.int i), some (.int x39)], [(.int i)])) (w1 := w) rfl rfl ?_
            refine aw_step (f1 := (51, [some (.ref 65), some (.int i), some (.int x39)], [(.ref 65), (.int i)])) (w1 := w) rfl rfl ?_
            refine s_cv (z := 113) (p := 65) (as := []) (st1 := [(.int i)]) J 54 rfl rfl rfl rfl rfl rfl rfl rfl (Nat.le_of_ble_eq_true rfl) (Nat.le_of_ble_eq_true rfl) (q_cells J.1) ?_
            rintro _ _ ⟨rfl, x41, rfl, x41t⟩
            refine ⟨rfl, ?_⟩
            show aw none _ 121 _ (54, [some (.ref 65), some (.int i), some (.int x39)], [(.int x41), (.int i)]) w
            have x41s := szM_in J.1
            refine s_ic 61 57 rfl rfl rfl (fun (h42 : i.toInt = x41.toInt) => ?_) (fun (h42 : ¬ (i.toInt = x41.toInt)) => ?_)
            · --
              refine aw_step (f1 := (62, [some (.ref 65), some (.int i), some (.int x39)], [(.int i)])) (w1 := w) rfl rfl ?_
              --
              refine aw_ret (v := some (.int i)) rfl rfl ?_
              exact ⟨rfl, i, rfl, Or.inr (Or.inl ⟨by omega, by omega, F, by unfold okL; omega⟩)⟩
            · --
              refine aw_step (f1 := (58, [some (.ref 65), some (.int i), some (.int x39)], [(.int x39)])) (w1 := w) rfl rfl ?_
              refine s_if 63 61 rfl rfl rfl (fun (h43 : ¬ x39.toInt = 0) => ?_) (fun (h43 : ¬ (¬ x39.toInt = 0)) => ?_)
              · --
                refine aw_step (f1 := (66, [some (.ref 65), some (.int (i + Int32.ofInt 1)), some (.int x39)], [])) (w1 := w) rfl rfl ?_
                obtain ⟨x44, x44e⟩ : ∃ z, z = (i + Int32.ofInt 1) := ⟨_, rfl⟩
                have x44t : x44.toInt = i.toInt + (1) := by rw [x44e]; exact n_add (y := Int32.ofInt (1)) (by show _ ≤ _ + (1 : Int); omega) (by show _ + (1 : Int) ≤ _; omega)
                rw [← x44e]
                refine aw_step (f1 := (2, [some (.ref 65), some (.int x44), some (.int x39)], [])) (w1 := w) rfl rfl ?_
                exact ih x44 _ (by omega) (by omega) (by omega) (fun j hj => by
                  by_cases e : j = i.toInt.toNat
                  · rw [e]; unfold okL; omega
                  · exact F j (by omega))
              · --
                refine aw_step (f1 := (62, [some (.ref 65), some (.int i), some (.int x39)], [(.int i)])) (w1 := w) rfl rfl ?_
                --
                refine aw_ret (v := some (.int i)) rfl rfl ?_
                exact ⟨rfl, i, rfl, Or.inr (Or.inl ⟨by omega, by omega, F, by unfold okL; omega⟩)⟩
theorem q_faultOfLand {d : Nat} {w : am_W} (I : ab_inv ab_TT ab_sets w) : aw none (d + 1) 121 (fun r w1 => w = w1 ∧ ∃ z : Int32, r = some (.int z) ∧ fltL (rI w 73) (szM w) (fI w 65 16) z.toInt) (0, am_entry 121 [.ref 65], []) w := by
  have J : ab_J ab_TT ab_sets ab_WR w w := ⟨I, ab_fr.rf⟩
  have nb := fI_in (p := 65) (k := 16) I rfl rfl
  show aw none (d + 1) 121 _ (0, [some (.ref 65), none, none], []) w
  refine s_i (pc1 := 1) (ls1 := [some (.ref 65), none, none]) (st1 := []) rfl rfl fun x1 e2 => ?_
  have e2t : x1.toInt = 0 := by rw [e2]; rfl
  refine aw_step (f1 := (2, [some (.ref 65), some (.int x1), none], [])) (w1 := w) rfl rfl ?_
  exact q_fLL J 61 x1 _ (by omega) (by omega) (by omega) (fun j hj => by omega)
theorem q_whyNoChange {d : Nat} {w : am_W} (b : Int32) (hb : 0 ≤ b.toInt ∧ b.toInt ≤ 3) (I : ab_inv ab_TT ab_sets w) : aw none (d + 1) 137 (QS w) (0, am_entry 137 [.ref 65, .int b], []) w := by
  have J : ab_J ab_TT ab_sets ab_WR w w := ⟨I, ab_fr.rf⟩
  show aw none (d + 1) 137 _ (0, [some (.ref 65), some (.int b)], []) w
  refine aw_step (f1 := (1, [some (.ref 65), some (.int b)], [(.ref 65)])) (w1 := w) rfl rfl ?_
  refine s_gl J 4 rfl rfl rfl rfl rfl rfl fun y1 y1a y1b y1f => ?_
  refine aw_step (f1 := (5, [some (.ref 65), some (.int b)], [(.ref 65), (.long y1)])) (w1 := w) rfl rfl ?_
  refine s_gi J 8 rfl rfl rfl rfl rfl rfl fun x2 x2a x2b x2f => ?_
  refine s_cs (z := 110) (as := [(.long y1), (.int x2)]) (st1 := []) 11 rfl rfl rfl rfl rfl rfl (Nat.le_of_ble_eq_true rfl) (Nat.le_of_ble_eq_true rfl) (Nat.le_of_ble_eq_true rfl) (q_has y1 x2 (by omega) (by omega)) ?_
  rintro _ _ ⟨rfl, x3, rfl, x3t⟩
  refine ⟨rfl, ?_⟩
  show aw none _ 137 _ (11, [some (.ref 65), some (.int b)], [(.int x3)]) w
  have x3l := bt_le (n64 y1) x2.toInt.toNat
  refine s_if 22 14 rfl rfl rfl (fun (h4 : x3.toInt = 0) => ?_) (fun (h4 : ¬ (x3.toInt = 0)) => ?_)
  · --
    refine s_i (pc1 := 23) (ls1 := [some (.ref 65), some (.int b)]) (st1 := []) rfl rfl fun x5 e6 => ?_
    have e6t : x5.toInt = 5 := by rw [e6]; rfl
    refine aw_ret (v := some (.int x5)) rfl rfl ?_
    exact ⟨J, x5, rfl⟩
  · --
    refine aw_step (f1 := (15, [some (.ref 65), some (.int b)], [(.int b)])) (w1 := w) rfl rfl ?_
    refine aw_step (f1 := (16, [some (.ref 65), some (.int b)], [(.ref 65), (.int b)])) (w1 := w) rfl rfl ?_
    refine s_gi J 19 rfl rfl rfl rfl rfl rfl fun x7 x7a x7b x7f => ?_
    refine s_ic 24 22 rfl rfl rfl (fun (h8 : ¬ b.toInt = x7.toInt) => ?_) (fun (h8 : ¬ (¬ b.toInt = x7.toInt)) => ?_)
    · --
      refine aw_step (f1 := (25, [some (.ref 65), some (.int b)], [(.ref 65)])) (w1 := w) rfl rfl ?_
      refine aw_step (f1 := (26, [some (.ref 65), some (.int b)], [(.int b), (.ref 65)])) (w1 := w) rfl rfl ?_
      refine s_pi J 29 rfl rfl rfl rfl rfl rfl rfl (by omega) (by omega) fun w9 J10 w9e => ?_
      refine s_i (pc1 := 30) (ls1 := [some (.ref 65), some (.int b)]) (st1 := []) rfl rfl fun x11 e12 => ?_
      have e12t : x11.toInt = 0 := by rw [e12]; rfl
      refine aw_ret (v := some (.int x11)) rfl rfl ?_
      exact ⟨J10, x11, rfl⟩
    · --
      refine s_i (pc1 := 23) (ls1 := [some (.ref 65), some (.int b)]) (st1 := []) rfl rfl fun x13 e14 => ?_
      have e14t : x13.toInt = 5 := by rw [e14]; rfl
      refine aw_ret (v := some (.int x13)) rfl rfl ?_
      exact ⟨J, x13, rfl⟩
theorem fr_pad {w00 w : am_W} (I : ab_inv ab_TT ab_sets w00) (J : ab_J ab_TT ab_sets ab_WR w00 w) : rI w 73 = rI w00 73 ∧ fI w 65 16 = fI w00 65 16 := by
  refine ⟨?_, fI_eq (fr_fv J I (p := 65) rfl (by decide) (by decide))⟩
  funext j
  unfold rI
  rw [fr_row J.2 (by decide) (fun k h => by
    have : ∀ q ∈ ab_WR.2, q.1 ≠ 73 := by decide
    exact this _ h rfl)]
theorem q_goL {d : Nat} {w00 : am_W} (I : ab_inv ab_TT ab_sets w00) (hn2 : fI w00 65 16 % 2 = 0) (F : ∀ j : Nat, (j : Int) < fI w00 65 16 → okW (rI w00 73) j) : ∀ (m : Nat) (w : am_W) (i : Int32) (o2 o3 : Option Value), (fI w00 65 16 - i.toInt).toNat < m → 0 ≤ i.toInt → i.toInt ≤ fI w00 65 16 → i.toInt % 2 = 0 → ab_J ab_TT ab_sets ab_WR w00 w → aw none (d + 5) 138 (fun r w1 => r = none ∧ ab_J ab_TT ab_sets ab_WR w00 w1) (52, [some (.ref 65), some (.int i), o2, o3], []) w := by
  have nb := fI_in (p := 65) (k := 16) I rfl rfl
  intro m
  induction m with
  | zero => intro w i o2 o3 p; omega
  | succ m ih =>
    intro w i o2 o3 p1 p2 p3 p4 J
    have PP := fr_pad I J
    refine aw_step (f1 := (53, [some (.ref 65), some (.int i), o2, o3], [(.int i)])) (w1 := w) rfl rfl ?_
    refine aw_step (f1 := (54, [some (.ref 65), some (.int i), o2, o3], [(.ref 65), (.int i)])) (w1 := w) rfl rfl ?_
    refine s_gi J 57 rfl rfl rfl rfl rfl rfl fun x1 x1a x1b x1f => ?_
    have hn := fI_of x1f
    refine s_ic 149 60 rfl rfl rfl (fun (h2 : x1.toInt ≤ i.toInt) => ?_) (fun (h2 : ¬ (x1.toInt ≤ i.toInt)) => ?_)
    · --
      refine aw_ret (v := none) rfl rfl ?_
      exact ⟨rfl, J⟩
    · --
      refine aw_step (f1 := (61, [some (.ref 65), some (.int i), o2, o3], [(.ref 65)])) (w1 := w) rfl rfl ?_
      refine s_gi J 64 rfl rfl rfl rfl rfl rfl fun x3 x3a x3b x3f => ?_
      refine s_if 149 67 rfl rfl rfl (fun (h4 : 0 ≤ x3.toInt) => ?_) (fun (h4 : ¬ (0 ≤ x3.toInt)) => ?_)
      · --
        refine aw_ret (v := none) rfl rfl ?_
        exact ⟨rfl, J⟩
      · --
        refine aw_step (f1 := (68, [some (.ref 65), some (.int i), o2, o3], [(.ref 65)])) (w1 := w) rfl rfl ?_
        refine s_gr 73 J 71 rfl rfl rfl rfl rfl rfl ?_
        refine aw_step (f1 := (72, [some (.ref 65), some (.int i), o2, o3], [(.int i), (.ref 73)])) (w1 := w) rfl rfl ?_
        refine s_i (pc1 := 73) (ls1 := [some (.ref 65), some (.int i), o2, o3]) (st1 := [(.int i), (.ref 73)]) rfl rfl fun x5 e6 => ?_
        have e6t : x5.toInt = 1 := by rw [e6]; rfl
        refine s_i (pc1 := 74) (ls1 := [some (.ref 65), some (.int i), o2, o3]) (st1 := [(.ref 73)]) rfl rfl fun x7 e8 => ?_
        have e8 : x7 = i + x5 := e8
        have e8t : x7.toInt = i.toInt + x5.toInt := by rw [e8]; exact n_add (by omega) (by omega)
        --
        refine s_ia J 75 rfl rfl rfl rfl (by omega) (by omega) fun x9 x9a x9b x9f => ?_
        have hr1 := rI_of x9f
        rw [show x7.toInt.toNat = i.toInt.toNat + 1 by omega] at hr1
        refine s_i (pc1 := 77) (ls1 := [some (.ref 65), some (.int i), o2, o3]) (st1 := [(.int x9)]) rfl rfl fun x10 e11 => ?_
        have e11t : x10.toInt = 48 := by rw [e11]; rfl
        refine s_i (pc1 := 78) (ls1 := [some (.ref 65), some (.int i), o2, o3]) (st1 := []) rfl rfl fun x12 e13 => ?_
        have e13 : x12 = x9 - x10 := e13
        have e13t : x12.toInt = x9.toInt - x10.toInt := by rw [e13]; exact n_sub (by omega) (by omega)
        refine aw_step (f1 := (79, [some (.ref 65), some (.int i), some (.int x12), o3], [])) (w1 := w) rfl rfl ?_
        refine aw_step (f1 := (80, [some (.ref 65), some (.int i), some (.int x12), o3], [(.ref 65)])) (w1 := w) rfl rfl ?_
        refine s_gr 73 J 83 rfl rfl rfl rfl rfl rfl ?_
        refine aw_step (f1 := (84, [some (.ref 65), some (.int i), some (.int x12), o3], [(.int i), (.ref 73)])) (w1 := w) rfl rfl ?_
        refine s_ia J 85 rfl rfl rfl rfl (by omega) (by omega) fun x14 x14a x14b x14f => ?_
        have hr0 := rI_of x14f
        rw [PP.1] at hr0 hr1
        have ok := F (i.toInt.toNat + 1) (by omega)
        unfold okW at ok
        rw [show i.toInt.toNat + 1 - 1 = i.toInt.toNat by omega] at ok
        refine s_i (pc1 := 87) (ls1 := [some (.ref 65), some (.int i), some (.int x12), o3]) (st1 := [(.int x14)]) rfl rfl fun x15 e16 => ?_
        have e16t : x15.toInt = 35 := by rw [e16]; rfl
        refine s_ic 98 90 rfl rfl rfl (fun (h17 : ¬ x14.toInt = x15.toInt) => ?_) (fun (h17 : ¬ (¬ x14.toInt = x15.toInt)) => ?_)
        · --
          refine aw_step (f1 := (99, [some (.ref 65), some (.int i), some (.int x12), o3], [(.ref 65)])) (w1 := w) rfl rfl ?_
          refine aw_step (f1 := (100, [some (.ref 65), some (.int i), some (.int x12), o3], [(.ref 65), (.ref 65)])) (w1 := w) rfl rfl ?_
          refine s_gr 73 J 103 rfl rfl rfl rfl rfl rfl ?_
          refine aw_step (f1 := (104, [some (.ref 65), some (.int i), some (.int x12), o3], [(.int i), (.ref 73), (.ref 65)])) (w1 := w) rfl rfl ?_
          refine s_ia J 105 rfl rfl rfl rfl (by omega) (by omega) fun x18 x18a x18b x18f => ?_
          refine s_i (pc1 := 107) (ls1 := [some (.ref 65), some (.int i), some (.int x12), o3]) (st1 := [(.int x18), (.ref 65)]) rfl rfl fun x19 e20 => ?_
          have e20t : x19.toInt = 97 := by rw [e20]; rfl
          refine s_i (pc1 := 108) (ls1 := [some (.ref 65), some (.int i), some (.int x12), o3]) (st1 := [(.ref 65)]) rfl rfl fun x21 e22 => ?_
          have e22 : x21 = x18 - x19 := e22
          have e22t : x21.toInt = x18.toInt - x19.toInt := by rw [e22]; exact n_sub (by omega) (by omega)
          refine aw_step (f1 := (109, [some (.ref 65), some (.int i), some (.int x12), o3], [(.int x12), (.int x21), (.ref 65)])) (w1 := w) rfl rfl ?_
          refine s_cv (z := 136) (p := 65) (as := [(.int x21), (.int x12)]) (st1 := []) J 112 rfl rfl rfl rfl rfl rfl rfl rfl (Nat.le_of_ble_eq_true rfl) (Nat.le_of_ble_eq_true rfl) ((ok_i (as := [.ref 65, .int x21, .int x12]) (-2147483648) (2147483647) kg57 (by decide) J.1 (And.intro (vF_r) (And.intro (vF_ti) (And.intro (vF_ti) (trivial))))).deep (by omega)) ?_
          rintro _ w24 ⟨J25c, x23, rfl, x23a, x23b⟩
          have J25 := J.trans J25c
          refine ⟨am_len2 J J25c, ?_⟩
          show aw none _ 138 _ (112, [some (.ref 65), some (.int i), some (.int x12), o3], [(.int x23)]) w24
          refine aw_step (f1 := (113, [some (.ref 65), some (.int i), some (.int x12), some (.int x23)], [])) (w1 := w24) rfl rfl ?_
          refine aw_step (f1 := (114, [some (.ref 65), some (.int i), some (.int x12), some (.int x23)], [(.ref 65)])) (w1 := w24) rfl rfl ?_
          refine aw_step (f1 := (115, [some (.ref 65), some (.int i), some (.int x12), some (.int x23)], [(.int x23), (.ref 65)])) (w1 := w24) rfl rfl ?_
          refine s_if 124 118 rfl rfl rfl (fun (h26 : x23.toInt ≤ 0) => ?_) (fun (h26 : ¬ (x23.toInt ≤ 0)) => ?_)
          · --
            refine s_i (pc1 := 126) (ls1 := [some (.ref 65), some (.int i), some (.int x12), some (.int x23)]) (st1 := [(.ref 65)]) rfl rfl fun x27 e28 => ?_
            have e28t : x27.toInt = -6 := by rw [e28]; rfl
            refine s_pi J25 129 rfl rfl rfl rfl rfl rfl rfl (by omega) (by omega) fun w29 J30 w29e => ?_
            refine aw_step (f1 := (130, [some (.ref 65), some (.int i), some (.int x12), some (.int x23)], [(.ref 65)])) (w1 := w29) rfl rfl ?_
            refine aw_step (f1 := (131, [some (.ref 65), some (.int i), some (.int x12), some (.int x23)], [(.int x23), (.ref 65)])) (w1 := w29) rfl rfl ?_
            refine s_if 138 134 rfl rfl rfl (fun (h31 : x23.toInt ≤ 0) => ?_) (fun (h31 : ¬ (x23.toInt ≤ 0)) => ?_)
            · --
              refine s_i (pc1 := 140) (ls1 := [some (.ref 65), some (.int i), some (.int x12), some (.int x23)]) (st1 := [(.ref 65)]) rfl rfl fun x32 e33 => ?_
              have e33t : x32.toInt = -6 := by rw [e33]; rfl
              refine s_pi J30 143 rfl rfl rfl rfl rfl rfl rfl (by omega) (by omega) fun w34 J35 w34e => ?_
              refine aw_step (f1 := (146, [some (.ref 65), some (.int (i + Int32.ofInt 2)), some (.int x12), some (.int x23)], [])) (w1 := w34) rfl rfl ?_
              obtain ⟨x36, x36e⟩ : ∃ z, z = (i + Int32.ofInt 2) := ⟨_, rfl⟩
              have x36t : x36.toInt = i.toInt + (2) := by rw [x36e]; exact n_add (y := Int32.ofInt (2)) (by show _ ≤ _ + (2 : Int); omega) (by show _ + (2 : Int) ≤ _; omega)
              rw [← x36e]
              refine aw_step (f1 := (52, [some (.ref 65), some (.int x36), some (.int x12), some (.int x23)], [])) (w1 := w34) rfl rfl ?_
              exact ih w34 x36 _ _ (by omega) (by omega) (by omega) (by omega) J35
            · --
              refine aw_step (f1 := (135, [some (.ref 65), some (.int i), some (.int x12), some (.int x23)], [(.int x23), (.ref 65)])) (w1 := w29) rfl rfl ?_
              refine aw_step (f1 := (140, [some (.ref 65), some (.int i), some (.int x12), some (.int x23)], [(.int x23), (.ref 65)])) (w1 := w29) rfl rfl ?_
              refine s_pi J30 143 rfl rfl rfl rfl rfl rfl rfl (by omega) (by omega) fun w37 J38 w37e => ?_
              refine aw_step (f1 := (146, [some (.ref 65), some (.int (i + Int32.ofInt 2)), some (.int x12), some (.int x23)], [])) (w1 := w37) rfl rfl ?_
              obtain ⟨x39, x39e⟩ : ∃ z, z = (i + Int32.ofInt 2) := ⟨_, rfl⟩
              have x39t : x39.toInt = i.toInt + (2) := by rw [x39e]; exact n_add (y := Int32.ofInt (2)) (by show _ ≤ _ + (2 : Int); omega) (by show _ + (2 : Int) ≤ _; omega)
              rw [← x39e]
              refine aw_step (f1 := (52, [some (.ref 65), some (.int x39), some (.int x12), some (.int x23)], [])) (w1 := w37) rfl rfl ?_
              exact ih w37 x39 _ _ (by omega) (by omega) (by omega) (by omega) J38
          · --
            refine aw_step (f1 := (119, [some (.ref 65), some (.int i), some (.int x12), some (.int x23)], [(.int i), (.ref 65)])) (w1 := w24) rfl rfl ?_
            refine s_i (pc1 := 120) (ls1 := [some (.ref 65), some (.int i), some (.int x12), some (.int x23)]) (st1 := [(.int i), (.ref 65)]) rfl rfl fun x40 e41 => ?_
            have e41t : x40.toInt = 2 := by rw [e41]; rfl
            refine s_dv (f := fun x y => x / y) 121 rfl rfl (by omega) fun x42 e43 => ?_
            have e43 : x42 = i / x40 := e43
            have e43t : x42.toInt = i.toInt / x40.toInt := by rw [e43]; exact n_div (by omega) (by omega)
            rw [e41t] at e43t
            refine aw_step (f1 := (126, [some (.ref 65), some (.int i), some (.int x12), some (.int x23)], [(.int x42), (.ref 65)])) (w1 := w24) rfl rfl ?_
            refine s_pi J25 129 rfl rfl rfl rfl rfl rfl rfl (by omega) (by omega) fun w44 J45 w44e => ?_
            refine aw_step (f1 := (130, [some (.ref 65), some (.int i), some (.int x12), some (.int x23)], [(.ref 65)])) (w1 := w44) rfl rfl ?_
            refine aw_step (f1 := (131, [some (.ref 65), some (.int i), some (.int x12), some (.int x23)], [(.int x23), (.ref 65)])) (w1 := w44) rfl rfl ?_
            refine s_if 138 134 rfl rfl rfl (fun (h46 : x23.toInt ≤ 0) => ?_) (fun (h46 : ¬ (x23.toInt ≤ 0)) => ?_)
            · --
              refine s_i (pc1 := 140) (ls1 := [some (.ref 65), some (.int i), some (.int x12), some (.int x23)]) (st1 := [(.ref 65)]) rfl rfl fun x47 e48 => ?_
              have e48t : x47.toInt = -6 := by rw [e48]; rfl
              refine s_pi J45 143 rfl rfl rfl rfl rfl rfl rfl (by omega) (by omega) fun w49 J50 w49e => ?_
              refine aw_step (f1 := (146, [some (.ref 65), some (.int (i + Int32.ofInt 2)), some (.int x12), some (.int x23)], [])) (w1 := w49) rfl rfl ?_
              obtain ⟨x51, x51e⟩ : ∃ z, z = (i + Int32.ofInt 2) := ⟨_, rfl⟩
              have x51t : x51.toInt = i.toInt + (2) := by rw [x51e]; exact n_add (y := Int32.ofInt (2)) (by show _ ≤ _ + (2 : Int); omega) (by show _ + (2 : Int) ≤ _; omega)
              rw [← x51e]
              refine aw_step (f1 := (52, [some (.ref 65), some (.int x51), some (.int x12), some (.int x23)], [])) (w1 := w49) rfl rfl ?_
              exact ih w49 x51 _ _ (by omega) (by omega) (by omega) (by omega) J50
            · --
              refine aw_step (f1 := (135, [some (.ref 65), some (.int i), some (.int x12), some (.int x23)], [(.int x23), (.ref 65)])) (w1 := w44) rfl rfl ?_
              refine aw_step (f1 := (140, [some (.ref 65), some (.int i), some (.int x12), some (.int x23)], [(.int x23), (.ref 65)])) (w1 := w44) rfl rfl ?_
              refine s_pi J45 143 rfl rfl rfl rfl rfl rfl rfl (by omega) (by omega) fun w52 J53 w52e => ?_
              refine aw_step (f1 := (146, [some (.ref 65), some (.int (i + Int32.ofInt 2)), some (.int x12), some (.int x23)], [])) (w1 := w52) rfl rfl ?_
              obtain ⟨x54, x54e⟩ : ∃ z, z = (i + Int32.ofInt 2) := ⟨_, rfl⟩
              have x54t : x54.toInt = i.toInt + (2) := by rw [x54e]; exact n_add (y := Int32.ofInt (2)) (by show _ ≤ _ + (2 : Int); omega) (by show _ + (2 : Int) ≤ _; omega)
              rw [← x54e]
              refine aw_step (f1 := (52, [some (.ref 65), some (.int x54), some (.int x12), some (.int x23)], [])) (w1 := w52) rfl rfl ?_
              exact ih w52 x54 _ _ (by omega) (by omega) (by omega) (by omega) J53
        · --
          refine aw_step (f1 := (91, [some (.ref 65), some (.int i), some (.int x12), o3], [(.ref 65)])) (w1 := w) rfl rfl ?_
          refine aw_step (f1 := (92, [some (.ref 65), some (.int i), some (.int x12), o3], [(.int x12), (.ref 65)])) (w1 := w) rfl rfl ?_
          refine s_cv (z := 137) (p := 65) (as := [(.int x12)]) (st1 := []) J 95 rfl rfl rfl rfl rfl rfl rfl rfl (Nat.le_of_ble_eq_true rfl) (Nat.le_of_ble_eq_true rfl) (q_whyNoChange x12 ⟨by omega, by omega⟩ J.1) ?_
          rintro _ w56 ⟨J57c, x55, rfl⟩
          have J57 := J.trans J57c
          refine ⟨am_len2 J J57c, ?_⟩
          show aw none _ 138 _ (95, [some (.ref 65), some (.int i), some (.int x12), o3], [(.int x55)]) w56
          have x55r := ab_any32 x55
          unfold ab_lo32 ab_hi32 at x55r
          refine aw_step (f1 := (112, [some (.ref 65), some (.int i), some (.int x12), o3], [(.int x55)])) (w1 := w56) rfl rfl ?_
          refine aw_step (f1 := (113, [some (.ref 65), some (.int i), some (.int x12), some (.int x55)], [])) (w1 := w56) rfl rfl ?_
          refine aw_step (f1 := (114, [some (.ref 65), some (.int i), some (.int x12), some (.int x55)], [(.ref 65)])) (w1 := w56) rfl rfl ?_
          refine aw_step (f1 := (115, [some (.ref 65), some (.int i), some (.int x12), some (.int x55)], [(.int x55), (.ref 65)])) (w1 := w56) rfl rfl ?_
          refine s_if 124 118 rfl rfl rfl (fun (h58 : x55.toInt ≤ 0) => ?_) (fun (h58 : ¬ (x55.toInt ≤ 0)) => ?_)
          · --
            refine s_i (pc1 := 126) (ls1 := [some (.ref 65), some (.int i), some (.int x12), some (.int x55)]) (st1 := [(.ref 65)]) rfl rfl fun x59 e60 => ?_
            have e60t : x59.toInt = -6 := by rw [e60]; rfl
            refine s_pi J57 129 rfl rfl rfl rfl rfl rfl rfl (by omega) (by omega) fun w61 J62 w61e => ?_
            refine aw_step (f1 := (130, [some (.ref 65), some (.int i), some (.int x12), some (.int x55)], [(.ref 65)])) (w1 := w61) rfl rfl ?_
            refine aw_step (f1 := (131, [some (.ref 65), some (.int i), some (.int x12), some (.int x55)], [(.int x55), (.ref 65)])) (w1 := w61) rfl rfl ?_
            refine s_if 138 134 rfl rfl rfl (fun (h63 : x55.toInt ≤ 0) => ?_) (fun (h63 : ¬ (x55.toInt ≤ 0)) => ?_)
            · --
              refine s_i (pc1 := 140) (ls1 := [some (.ref 65), some (.int i), some (.int x12), some (.int x55)]) (st1 := [(.ref 65)]) rfl rfl fun x64 e65 => ?_
              have e65t : x64.toInt = -6 := by rw [e65]; rfl
              refine s_pi J62 143 rfl rfl rfl rfl rfl rfl rfl (by omega) (by omega) fun w66 J67 w66e => ?_
              refine aw_step (f1 := (146, [some (.ref 65), some (.int (i + Int32.ofInt 2)), some (.int x12), some (.int x55)], [])) (w1 := w66) rfl rfl ?_
              obtain ⟨x68, x68e⟩ : ∃ z, z = (i + Int32.ofInt 2) := ⟨_, rfl⟩
              have x68t : x68.toInt = i.toInt + (2) := by rw [x68e]; exact n_add (y := Int32.ofInt (2)) (by show _ ≤ _ + (2 : Int); omega) (by show _ + (2 : Int) ≤ _; omega)
              rw [← x68e]
              refine aw_step (f1 := (52, [some (.ref 65), some (.int x68), some (.int x12), some (.int x55)], [])) (w1 := w66) rfl rfl ?_
              exact ih w66 x68 _ _ (by omega) (by omega) (by omega) (by omega) J67
            · --
              refine aw_step (f1 := (135, [some (.ref 65), some (.int i), some (.int x12), some (.int x55)], [(.int x55), (.ref 65)])) (w1 := w61) rfl rfl ?_
              refine aw_step (f1 := (140, [some (.ref 65), some (.int i), some (.int x12), some (.int x55)], [(.int x55), (.ref 65)])) (w1 := w61) rfl rfl ?_
              refine s_pi J62 143 rfl rfl rfl rfl rfl rfl rfl (by omega) (by omega) fun w69 J70 w69e => ?_
              refine aw_step (f1 := (146, [some (.ref 65), some (.int (i + Int32.ofInt 2)), some (.int x12), some (.int x55)], [])) (w1 := w69) rfl rfl ?_
              obtain ⟨x71, x71e⟩ : ∃ z, z = (i + Int32.ofInt 2) := ⟨_, rfl⟩
              have x71t : x71.toInt = i.toInt + (2) := by rw [x71e]; exact n_add (y := Int32.ofInt (2)) (by show _ ≤ _ + (2 : Int); omega) (by show _ + (2 : Int) ≤ _; omega)
              rw [← x71e]
              refine aw_step (f1 := (52, [some (.ref 65), some (.int x71), some (.int x12), some (.int x55)], [])) (w1 := w69) rfl rfl ?_
              exact ih w69 x71 _ _ (by omega) (by omega) (by omega) (by omega) J70
          · --
            refine aw_step (f1 := (119, [some (.ref 65), some (.int i), some (.int x12), some (.int x55)], [(.int i), (.ref 65)])) (w1 := w56) rfl rfl ?_
            refine s_i (pc1 := 120) (ls1 := [some (.ref 65), some (.int i), some (.int x12), some (.int x55)]) (st1 := [(.int i), (.ref 65)]) rfl rfl fun x72 e73 => ?_
            have e73t : x72.toInt = 2 := by rw [e73]; rfl
            refine s_dv (f := fun x y => x / y) 121 rfl rfl (by omega) fun x74 e75 => ?_
            have e75 : x74 = i / x72 := e75
            have e75t : x74.toInt = i.toInt / x72.toInt := by rw [e75]; exact n_div (by omega) (by omega)
            rw [e73t] at e75t
            refine aw_step (f1 := (126, [some (.ref 65), some (.int i), some (.int x12), some (.int x55)], [(.int x74), (.ref 65)])) (w1 := w56) rfl rfl ?_
            refine s_pi J57 129 rfl rfl rfl rfl rfl rfl rfl (by omega) (by omega) fun w76 J77 w76e => ?_
            refine aw_step (f1 := (130, [some (.ref 65), some (.int i), some (.int x12), some (.int x55)], [(.ref 65)])) (w1 := w76) rfl rfl ?_
            refine aw_step (f1 := (131, [some (.ref 65), some (.int i), some (.int x12), some (.int x55)], [(.int x55), (.ref 65)])) (w1 := w76) rfl rfl ?_
            refine s_if 138 134 rfl rfl rfl (fun (h78 : x55.toInt ≤ 0) => ?_) (fun (h78 : ¬ (x55.toInt ≤ 0)) => ?_)
            · --
              refine s_i (pc1 := 140) (ls1 := [some (.ref 65), some (.int i), some (.int x12), some (.int x55)]) (st1 := [(.ref 65)]) rfl rfl fun x79 e80 => ?_
              have e80t : x79.toInt = -6 := by rw [e80]; rfl
              refine s_pi J77 143 rfl rfl rfl rfl rfl rfl rfl (by omega) (by omega) fun w81 J82 w81e => ?_
              refine aw_step (f1 := (146, [some (.ref 65), some (.int (i + Int32.ofInt 2)), some (.int x12), some (.int x55)], [])) (w1 := w81) rfl rfl ?_
              obtain ⟨x83, x83e⟩ : ∃ z, z = (i + Int32.ofInt 2) := ⟨_, rfl⟩
              have x83t : x83.toInt = i.toInt + (2) := by rw [x83e]; exact n_add (y := Int32.ofInt (2)) (by show _ ≤ _ + (2 : Int); omega) (by show _ + (2 : Int) ≤ _; omega)
              rw [← x83e]
              refine aw_step (f1 := (52, [some (.ref 65), some (.int x83), some (.int x12), some (.int x55)], [])) (w1 := w81) rfl rfl ?_
              exact ih w81 x83 _ _ (by omega) (by omega) (by omega) (by omega) J82
            · --
              refine aw_step (f1 := (135, [some (.ref 65), some (.int i), some (.int x12), some (.int x55)], [(.int x55), (.ref 65)])) (w1 := w76) rfl rfl ?_
              refine aw_step (f1 := (140, [some (.ref 65), some (.int i), some (.int x12), some (.int x55)], [(.int x55), (.ref 65)])) (w1 := w76) rfl rfl ?_
              refine s_pi J77 143 rfl rfl rfl rfl rfl rfl rfl (by omega) (by omega) fun w84 J85 w84e => ?_
              refine aw_step (f1 := (146, [some (.ref 65), some (.int (i + Int32.ofInt 2)), some (.int x12), some (.int x55)], [])) (w1 := w84) rfl rfl ?_
              obtain ⟨x86, x86e⟩ : ∃ z, z = (i + Int32.ofInt 2) := ⟨_, rfl⟩
              have x86t : x86.toInt = i.toInt + (2) := by rw [x86e]; exact n_add (y := Int32.ofInt (2)) (by show _ ≤ _ + (2 : Int); omega) (by show _ + (2 : Int) ≤ _; omega)
              rw [← x86e]
              refine aw_step (f1 := (52, [some (.ref 65), some (.int x86), some (.int x12), some (.int x55)], [])) (w1 := w84) rfl rfl ?_
              exact ih w84 x86 _ _ (by omega) (by omega) (by omega) (by omega) J85
theorem q_go0 {d : Nat} {w00 : am_W} (I : ab_inv ab_TT ab_sets w00) (hn2 : fI w00 65 16 % 2 = 0) (F : ∀ j : Nat, (j : Int) < fI w00 65 16 → okW (rI w00 73) j) : ∀ (m : Nat) (w : am_W) (i : Int32), (4 - i.toInt).toNat < m → 0 ≤ i.toInt → i.toInt ≤ 4 → ab_J ab_TT ab_sets ab_WR w00 w → aw none (d + 5) 138 (fun r w1 => r = none ∧ ab_J ab_TT ab_sets ab_WR w00 w1) (2, [some (.ref 65), some (.int i), none, none], []) w := by
  have nb := fI_in (p := 65) (k := 16) I rfl rfl
  intro m
  induction m with
  | zero => intro w i p; omega
  | succ m ih =>
    intro w i p1 p2 p3 J
    refine aw_step (f1 := (3, [some (.ref 65), some (.int i), none, none], [(.int i)])) (w1 := w) rfl rfl ?_
    refine s_i (pc1 := 4) (ls1 := [some (.ref 65), some (.int i), none, none]) (st1 := [(.int i)]) rfl rfl fun x1 e2 => ?_
    have e2t : x1.toInt = 4 := by rw [e2]; rfl
    refine s_ic 20 7 rfl rfl rfl (fun (h3 : x1.toInt ≤ i.toInt) => ?_) (fun (h3 : ¬ (x1.toInt ≤ i.toInt)) => ?_)
    · --
      refine aw_step (f1 := (21, [some (.ref 65), some (.int i), none, none], [(.ref 65)])) (w1 := w) rfl rfl ?_
      refine aw_step (f1 := (22, [some (.ref 65), some (.int i), none, none], [(.ref 65), (.ref 65)])) (w1 := w) rfl rfl ?_
      refine s_gi J 25 rfl rfl rfl rfl rfl rfl fun x4 x4a x4b x4f => ?_
      refine s_pi J 28 rfl rfl rfl rfl rfl rfl rfl (by omega) (by omega) fun w5 J6 w5e => ?_
      refine aw_step (f1 := (29, [some (.ref 65), some (.int i), none, none], [(.ref 65)])) (w1 := w5) rfl rfl ?_
      refine s_i (pc1 := 30) (ls1 := [some (.ref 65), some (.int i), none, none]) (st1 := [(.ref 65)]) rfl rfl fun x7 e8 => ?_
      have e8t : x7.toInt = 0 := by rw [e8]; rfl
      refine s_pi J6 33 rfl rfl rfl rfl rfl rfl rfl (by omega) (by omega) fun w9 J10 w9e => ?_
      refine aw_step (f1 := (34, [some (.ref 65), some (.int i), none, none], [(.ref 65)])) (w1 := w9) rfl rfl ?_
      refine s_i (pc1 := 35) (ls1 := [some (.ref 65), some (.int i), none, none]) (st1 := [(.ref 65)]) rfl rfl fun x11 e12 => ?_
      have e12t : x11.toInt = 0 := by rw [e12]; rfl
      refine s_pi J10 38 rfl rfl rfl rfl rfl rfl rfl (by omega) (by omega) fun w13 J14 w13e => ?_
      refine aw_step (f1 := (39, [some (.ref 65), some (.int i), none, none], [(.ref 65)])) (w1 := w13) rfl rfl ?_
      refine s_i (pc1 := 41) (ls1 := [some (.ref 65), some (.int i), none, none]) (st1 := [(.ref 65)]) rfl rfl fun x15 e16 => ?_
      have e16t : x15.toInt = -6 := by rw [e16]; rfl
      refine s_pi J14 44 rfl rfl rfl rfl rfl rfl rfl (by omega) (by omega) fun w17 J18 w17e => ?_
      refine aw_step (f1 := (45, [some (.ref 65), some (.int i), none, none], [(.ref 65)])) (w1 := w17) rfl rfl ?_
      refine s_i (pc1 := 47) (ls1 := [some (.ref 65), some (.int i), none, none]) (st1 := [(.ref 65)]) rfl rfl fun x19 e20 => ?_
      have e20t : x19.toInt = -6 := by rw [e20]; rfl
      refine s_pi J18 50 rfl rfl rfl rfl rfl rfl rfl (by omega) (by omega) fun w21 J22 w21e => ?_
      refine s_i (pc1 := 51) (ls1 := [some (.ref 65), some (.int i), none, none]) (st1 := []) rfl rfl fun x23 e24 => ?_
      have e24t : x23.toInt = 0 := by rw [e24]; rfl
      refine aw_step (f1 := (52, [some (.ref 65), some (.int x23), none, none], [])) (w1 := w21) rfl rfl ?_
      exact q_goL I hn2 F 61 w21 x23 _ _ (by omega) (by omega) (by omega) (by omega) J22
    · --
      refine aw_step (f1 := (8, [some (.ref 65), some (.int i), none, none], [(.ref 65)])) (w1 := w) rfl rfl ?_
      refine s_gr 76 J 11 rfl rfl rfl rfl rfl rfl ?_
      refine aw_step (f1 := (12, [some (.ref 65), some (.int i), none, none], [(.int i), (.ref 76)])) (w1 := w) rfl rfl ?_
      refine s_i (pc1 := 13) (ls1 := [some (.ref 65), some (.int i), none, none]) (st1 := [(.int i), (.ref 76)]) rfl rfl fun x25 e26 => ?_
      have e26t : x25.toInt = 0 := by rw [e26]; rfl
      refine s_is J 14 rfl rfl rfl rfl (by omega) (by omega) (by omega) (by omega) fun w27 J28 w27e => ?_
      refine aw_step (f1 := (17, [some (.ref 65), some (.int (i + Int32.ofInt 1)), none, none], [])) (w1 := w27) rfl rfl ?_
      obtain ⟨x29, x29e⟩ : ∃ z, z = (i + Int32.ofInt 1) := ⟨_, rfl⟩
      have x29t : x29.toInt = i.toInt + (1) := by rw [x29e]; exact n_add (y := Int32.ofInt (1)) (by show _ ≤ _ + (1 : Int); omega) (by show _ + (1 : Int) ≤ _; omega)
      rw [← x29e]
      refine aw_step (f1 := (2, [some (.ref 65), some (.int x29), none, none], [])) (w1 := w27) rfl rfl ?_
      exact ih w27 x29 (by omega) (by omega) (by omega) J28
theorem q_goWalk {d : Nat} {w : am_W} (hn2 : fI w 65 16 % 2 = 0) (F : ∀ j : Nat, (j : Int) < fI w 65 16 → okW (rI w 73) j) (I : ab_inv ab_TT ab_sets w) : aw none (d + 5) 138 (fun r w1 => r = none ∧ ab_J ab_TT ab_sets ab_WR w w1) (0, am_entry 138 [.ref 65], []) w := by
  have J : ab_J ab_TT ab_sets ab_WR w w := ⟨I, ab_fr.rf⟩
  show aw none (d + 5) 138 _ (0, [some (.ref 65), none, none, none], []) w
  refine s_i (pc1 := 1) (ls1 := [some (.ref 65), none, none, none]) (st1 := []) rfl rfl fun x1 e2 => ?_
  have e2t : x1.toInt = 0 := by rw [e2]; rfl
  refine aw_step (f1 := (2, [some (.ref 65), some (.int x1), none, none], [])) (w1 := w) rfl rfl ?_
  exact q_go0 I hn2 F 5 w x1 (by omega) (by omega) (by omega) J
theorem q_judge {d : Nat} {w : am_W} (wh : Int32) (I : ab_inv ab_TT ab_sets w) : aw none (d + 6) 139 (QS w) (0, am_entry 139 [.ref 65, .int wh], []) w := by
  have J : ab_J ab_TT ab_sets ab_WR w w := ⟨I, ab_fr.rf⟩
  show aw none (d + 6) 139 _ (0, [some (.ref 65), some (.int wh)], []) w
  refine aw_step (f1 := (1, [some (.ref 65), some (.int wh)], [(.int wh)])) (w1 := w) rfl rfl ?_
  refine s_l (pc1 := 2) (ls1 := [some (.ref 65), some (.int wh)]) (st1 := []) rfl rfl fun y1 e2 => ?_
  have e2t : y1.toInt = wh.toInt := by rw [e2]; exact Int32.toInt_toInt64 wh
  refine s_l (pc1 := 3) (ls1 := [some (.ref 65), some (.int wh)]) (st1 := [(.long y1)]) rfl rfl fun y3 e4 => ?_
  have e4t : y3.toInt = 0 := by rw [e4]; rfl
  refine s_l (pc1 := 6) (ls1 := [some (.ref 65), some (.int wh)]) (st1 := [(.long y3), (.long y1)]) rfl rfl fun y5 e6 => ?_
  have e6t : y5.toInt = 7 := by rw [e6]; rfl
  refine s_cs (z := 108) (as := [(.long y1), (.long y3), (.long y5)]) (st1 := []) 9 rfl rfl rfl rfl rfl rfl (Nat.le_of_ble_eq_true rfl) (Nat.le_of_ble_eq_true rfl) (Nat.le_of_ble_eq_true rfl) (q_in2 y1 y3 y5) ?_
  rintro _ _ ⟨rfl, x7, rfl, x7t⟩
  refine ⟨rfl, ?_⟩
  show aw none _ 139 _ (9, [some (.ref 65), some (.int wh)], [(.int x7)]) w
  refine s_if 15 12 rfl rfl rfl (fun (h8 : ¬ x7.toInt = 0) => ?_) (fun (h8 : ¬ (¬ x7.toInt = 0)) => ?_)
  · --
    refine aw_step (f1 := (16, [some (.ref 65), some (.int wh)], [(.ref 65)])) (w1 := w) rfl rfl ?_
    refine s_cv (z := 122) (p := 65) (as := []) (st1 := []) J 19 rfl rfl rfl rfl rfl rfl rfl rfl (Nat.le_of_ble_eq_true rfl) (Nat.le_of_ble_eq_true rfl) (q_faultOfWalk J.1) ?_
    rintro _ _ ⟨rfl, x9, rfl, x9t⟩
    refine ⟨rfl, ?_⟩
    show aw none _ 139 _ (19, [some (.ref 65), some (.int wh)], [(.int x9)]) w
    have nb := fI_in (p := 65) (k := 16) J.1 rfl rfl
    --
    refine s_if 25 22 rfl rfl rfl (fun (h10 : x9.toInt < 0) => ?_) (fun (h10 : ¬ (x9.toInt < 0)) => ?_)
    · --
      have kk : fI w 65 16 % 2 = 0 ∧ ∀ j : Nat, (j : Int) < fI w 65 16 → okW (rI w 73) j := by
        rcases x9t with q | q | q
        · exact q.2
        · omega
        · omega
      refine aw_step (f1 := (26, [some (.ref 65), some (.int wh)], [(.ref 65)])) (w1 := w) rfl rfl ?_
      refine s_cv (z := 138) (p := 65) (as := []) (st1 := []) J 29 rfl rfl rfl rfl rfl rfl rfl rfl (Nat.le_of_ble_eq_true rfl) (Nat.le_of_ble_eq_true rfl) (q_goWalk kk.1 kk.2 J.1) ?_
      rintro _ w11 ⟨rfl, J12c⟩
      have J12 := J.trans J12c
      refine ⟨am_len2 J J12c, ?_⟩
      show aw none _ 139 _ (29, [some (.ref 65), some (.int wh)], []) w11
      refine aw_step (f1 := (30, [some (.ref 65), some (.int wh)], [(.int wh)])) (w1 := w11) rfl rfl ?_
      refine s_i (pc1 := 31) (ls1 := [some (.ref 65), some (.int wh)]) (st1 := [(.int wh)]) rfl rfl fun x13 e14 => ?_
      have e14t : x13.toInt = 1 := by rw [e14]; rfl
      refine s_ic 44 34 rfl rfl rfl (fun (h15 : wh.toInt ≤ x13.toInt) => ?_) (fun (h15 : ¬ (wh.toInt ≤ x13.toInt)) => ?_)
      · --
        refine aw_step (f1 := (45, [some (.ref 65), some (.int wh)], [(.int wh)])) (w1 := w11) rfl rfl ?_
        rcases (show (wh.toInt < 0 ∨ 3 < wh.toInt) ∨ wh.toInt = 0 ∨ wh.toInt = 1 ∨ wh.toInt = 2 ∨ wh.toInt = 3 from by omega) with h16 | h16 | h16 | h16 | h16
        · refine s_swd 96 rfl rfl h16 ?_
          refine aw_step (f1 := (97, [some (.ref 65), some (.int wh)], [(.ref 65)])) (w1 := w11) rfl rfl ?_
          refine s_gr 76 J12 100 rfl rfl rfl rfl rfl rfl ?_
          refine aw_step (f1 := (101, [some (.ref 65), some (.int wh)], [(.int wh), (.ref 76)])) (w1 := w11) rfl rfl ?_
          refine s_i (pc1 := 102) (ls1 := [some (.ref 65), some (.int wh)]) (st1 := [(.int wh), (.ref 76)]) rfl rfl fun x17 e18 => ?_
          have e18t : x17.toInt = 4 := by rw [e18]; rfl
          refine s_i (pc1 := 103) (ls1 := [some (.ref 65), some (.int wh)]) (st1 := [(.ref 76)]) rfl rfl fun x19 e20 => ?_
          have e20 : x19 = wh - x17 := e20
          have e20t : x19.toInt = wh.toInt - x17.toInt := by rw [e20]; exact n_sub (by omega) (by omega)
          refine s_ia J12 104 rfl rfl rfl rfl (by omega) (by omega) fun x21 x21a x21b x21f => ?_
          refine aw_ret (v := some (.int x21)) rfl rfl ?_
          exact ⟨J12, x21, rfl⟩
        · refine s_swj (j := 0) 76 rfl (by omega) (by omega) (by omega) rfl rfl ?_
          refine aw_step (f1 := (77, [some (.ref 65), some (.int wh)], [(.ref 65)])) (w1 := w11) rfl rfl ?_
          refine s_gi J12 80 rfl rfl rfl rfl rfl rfl fun x22 x22a x22b x22f => ?_
          refine aw_ret (v := some (.int x22)) rfl rfl ?_
          exact ⟨J12, x22, rfl⟩
        · refine s_swj (j := 1) 81 rfl (by omega) (by omega) (by omega) rfl rfl ?_
          refine aw_step (f1 := (82, [some (.ref 65), some (.int wh)], [(.ref 65)])) (w1 := w11) rfl rfl ?_
          refine s_gi J12 85 rfl rfl rfl rfl rfl rfl fun x23 x23a x23b x23f => ?_
          refine aw_ret (v := some (.int x23)) rfl rfl ?_
          exact ⟨J12, x23, rfl⟩
        · refine s_swj (j := 2) 86 rfl (by omega) (by omega) (by omega) rfl rfl ?_
          refine aw_step (f1 := (87, [some (.ref 65), some (.int wh)], [(.ref 65)])) (w1 := w11) rfl rfl ?_
          refine s_gi J12 90 rfl rfl rfl rfl rfl rfl fun x24 x24a x24b x24f => ?_
          refine aw_ret (v := some (.int x24)) rfl rfl ?_
          exact ⟨J12, x24, rfl⟩
        · refine s_swj (j := 3) 91 rfl (by omega) (by omega) (by omega) rfl rfl ?_
          refine aw_step (f1 := (92, [some (.ref 65), some (.int wh)], [(.ref 65)])) (w1 := w11) rfl rfl ?_
          refine s_gi J12 95 rfl rfl rfl rfl rfl rfl fun x25 x25a x25b x25f => ?_
          refine aw_ret (v := some (.int x25)) rfl rfl ?_
          exact ⟨J12, x25, rfl⟩
      · --
        refine aw_step (f1 := (35, [some (.ref 65), some (.int wh)], [(.ref 65)])) (w1 := w11) rfl rfl ?_
        refine s_gi J12 38 rfl rfl rfl rfl rfl rfl fun x26 x26a x26b x26f => ?_
        refine s_if 44 41 rfl rfl rfl (fun (h27 : x26.toInt < 0) => ?_) (fun (h27 : ¬ (x26.toInt < 0)) => ?_)
        · --
          refine aw_step (f1 := (45, [some (.ref 65), some (.int wh)], [(.int wh)])) (w1 := w11) rfl rfl ?_
          rcases (show (wh.toInt < 0 ∨ 3 < wh.toInt) ∨ wh.toInt = 0 ∨ wh.toInt = 1 ∨ wh.toInt = 2 ∨ wh.toInt = 3 from by omega) with h28 | h28 | h28 | h28 | h28
          · refine s_swd 96 rfl rfl h28 ?_
            refine aw_step (f1 := (97, [some (.ref 65), some (.int wh)], [(.ref 65)])) (w1 := w11) rfl rfl ?_
            refine s_gr 76 J12 100 rfl rfl rfl rfl rfl rfl ?_
            refine aw_step (f1 := (101, [some (.ref 65), some (.int wh)], [(.int wh), (.ref 76)])) (w1 := w11) rfl rfl ?_
            refine s_i (pc1 := 102) (ls1 := [some (.ref 65), some (.int wh)]) (st1 := [(.int wh), (.ref 76)]) rfl rfl fun x29 e30 => ?_
            have e30t : x29.toInt = 4 := by rw [e30]; rfl
            refine s_i (pc1 := 103) (ls1 := [some (.ref 65), some (.int wh)]) (st1 := [(.ref 76)]) rfl rfl fun x31 e32 => ?_
            have e32 : x31 = wh - x29 := e32
            have e32t : x31.toInt = wh.toInt - x29.toInt := by rw [e32]; exact n_sub (by omega) (by omega)
            refine s_ia J12 104 rfl rfl rfl rfl (by omega) (by omega) fun x33 x33a x33b x33f => ?_
            refine aw_ret (v := some (.int x33)) rfl rfl ?_
            exact ⟨J12, x33, rfl⟩
          · refine s_swj (j := 0) 76 rfl (by omega) (by omega) (by omega) rfl rfl ?_
            refine aw_step (f1 := (77, [some (.ref 65), some (.int wh)], [(.ref 65)])) (w1 := w11) rfl rfl ?_
            refine s_gi J12 80 rfl rfl rfl rfl rfl rfl fun x34 x34a x34b x34f => ?_
            refine aw_ret (v := some (.int x34)) rfl rfl ?_
            exact ⟨J12, x34, rfl⟩
          · refine s_swj (j := 1) 81 rfl (by omega) (by omega) (by omega) rfl rfl ?_
            refine aw_step (f1 := (82, [some (.ref 65), some (.int wh)], [(.ref 65)])) (w1 := w11) rfl rfl ?_
            refine s_gi J12 85 rfl rfl rfl rfl rfl rfl fun x35 x35a x35b x35f => ?_
            refine aw_ret (v := some (.int x35)) rfl rfl ?_
            exact ⟨J12, x35, rfl⟩
          · refine s_swj (j := 2) 86 rfl (by omega) (by omega) (by omega) rfl rfl ?_
            refine aw_step (f1 := (87, [some (.ref 65), some (.int wh)], [(.ref 65)])) (w1 := w11) rfl rfl ?_
            refine s_gi J12 90 rfl rfl rfl rfl rfl rfl fun x36 x36a x36b x36f => ?_
            refine aw_ret (v := some (.int x36)) rfl rfl ?_
            exact ⟨J12, x36, rfl⟩
          · refine s_swj (j := 3) 91 rfl (by omega) (by omega) (by omega) rfl rfl ?_
            refine aw_step (f1 := (92, [some (.ref 65), some (.int wh)], [(.ref 65)])) (w1 := w11) rfl rfl ?_
            refine s_gi J12 95 rfl rfl rfl rfl rfl rfl fun x37 x37a x37b x37f => ?_
            refine aw_ret (v := some (.int x37)) rfl rfl ?_
            exact ⟨J12, x37, rfl⟩
        · --
          refine s_i (pc1 := 43) (ls1 := [some (.ref 65), some (.int wh)]) (st1 := []) rfl rfl fun x38 e39 => ?_
          have e39t : x38.toInt = -3 := by rw [e39]; rfl
          refine aw_ret (v := some (.int x38)) rfl rfl ?_
          exact ⟨J12, x38, rfl⟩
    · --
      refine s_i (pc1 := 24) (ls1 := [some (.ref 65), some (.int wh)]) (st1 := []) rfl rfl fun x40 e41 => ?_
      have e41t : x40.toInt = -5 := by rw [e41]; rfl
      refine aw_ret (v := some (.int x40)) rfl rfl ?_
      exact ⟨J, x40, rfl⟩
  · --
    refine s_i (pc1 := 14) (ls1 := [some (.ref 65), some (.int wh)]) (st1 := []) rfl rfl fun x42 e43 => ?_
    have e43t : x42.toInt = -2 := by rw [e43]; rfl
    refine aw_ret (v := some (.int x42)) rfl rfl ?_
    exact ⟨J, x42, rfl⟩
