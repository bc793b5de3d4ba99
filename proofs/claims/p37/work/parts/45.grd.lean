/-! ===== guard ===== -/
noncomputable def wsN (r : Nat → Int) (y g t : Nat) : Nat → Int
  | 0 => 0
  | n + 1 => max (wsN r y g t n) (if (t = n ∨ bt y n = 1) ∧ n ≠ g then r (36 * g + n) else 0)
noncomputable def wsT (r : Nat → Int) (y g t sz : Nat) : Int := if g = t then 0 else wsN r y g t sz
noncomputable def bsN (r : Nat → Int) (x y g t sz : Nat) : Nat → Int
  | 0 => 100000
  | n + 1 => min (bsN r x y g t sz n) (if g = n ∨ bt x n = 1 then wsT r y n t sz else 100000)
noncomputable def bst (r : Nat → Int) (x y g t sz : Nat) : Int := if bsN r x y g t sz sz = 100000 then 100000 else bsN r x y g t sz sz + 1
section GU
variable {r r' : Nat → Int} {x y g t sz : Nat}
theorem wsN_b (hr : ∀ j, 0 ≤ r j ∧ r j ≤ 100000) : ∀ n, 0 ≤ wsN r y g t n ∧ wsN r y g t n ≤ 100000
  | 0 => by unfold wsN; omega
  | n + 1 => by
    have h := wsN_b hr n
    have h1 := hr (36 * g + n)
    unfold wsN
    split <;> omega
theorem wsT_b (hr : ∀ j, 0 ≤ r j ∧ r j ≤ 100000) (_ : g < 64) (_ : sz ≤ 36) : 0 ≤ wsT r y g t sz ∧ wsT r y g t sz ≤ 100000 := by
  unfold wsT
  split
  · omega
  · exact wsN_b hr _
theorem bsN_b (hr : ∀ j, 0 ≤ r j ∧ r j ≤ 100000) (hs : sz ≤ 36) : ∀ n, n ≤ 36 → 0 ≤ bsN r x y g t sz n ∧ bsN r x y g t sz n ≤ 100000
  | 0, _ => by unfold bsN; omega
  | n + 1, hn => by
    have h := bsN_b hr hs n (by omega)
    have h1 := wsT_b (r := r) (y := y) (g := n) (t := t) (sz := sz) hr (by omega) hs
    unfold bsN
    split <;> omega
theorem bs_b (hr : ∀ j, 0 ≤ r j ∧ r j ≤ 100000) (_ : g < 64) (hs : sz ≤ 36) : 0 ≤ bst r x y g t sz ∧ bst r x y g t sz ≤ 100000 := by
  have := bsN_b (r := r) (x := x) (y := y) (g := g) (t := t) hr hs sz hs
  unfold bst
  split <;> omega
theorem wsN_m (h : ∀ j, r' j ≤ r j) : ∀ n, wsN r' y g t n ≤ wsN r y g t n
  | 0 => Int.le_refl _
  | n + 1 => by
    have h0 := wsN_m h n
    have h1 := h (36 * g + n)
    unfold wsN
    split <;> omega
theorem wsT_m (h : ∀ j, r' j ≤ r j) : wsT r' y g t sz ≤ wsT r y g t sz := by
  have := wsN_m (y := y) (g := g) (t := t) h sz
  unfold wsT
  split <;> omega
theorem bsN_m (h : ∀ j, r' j ≤ r j) : ∀ n, bsN r' x y g t sz n ≤ bsN r x y g t sz n
  | 0 => Int.le_refl _
  | n + 1 => by
    have h0 := bsN_m h n
    have h1 := wsT_m (y := y) (g := n) (t := t) (sz := sz) h
    unfold bsN
    split <;> omega
theorem bsN_le : ∀ n, bsN r x y g t sz n ≤ 100000
  | 0 => Int.le_refl _
  | n + 1 => by
    have h0 := bsN_le n
    unfold bsN
    omega
theorem bst_m (h : ∀ j, r' j ≤ r j) : bst r' x y g t sz ≤ bst r x y g t sz := by
  have h0 := bsN_m (x := x) (y := y) (g := g) (t := t) (sz := sz) h sz
  have h1 := bsN_le (r := r) (x := x) (y := y) (g := g) (t := t) (sz := sz) sz
  have h2 := bsN_le (r := r') (x := x) (y := y) (g := g) (t := t) (sz := sz) sz
  unfold bst
  split <;> split <;> omega
theorem bsN_at : ∀ n, bsN r x y g t sz n < 100000 → ∃ b, b < n ∧ (g = b ∨ bt x b = 1) ∧ wsT r y b t sz = bsN r x y g t sz n
  | 0, h => by unfold bsN at h; omega
  | n + 1, h => by
    unfold bsN at h ⊢
    by_cases q : g = n ∨ bt x n = 1
    · rw [if_pos q] at h ⊢
      by_cases e : wsT r y n t sz ≤ bsN r x y g t sz n
      · exact ⟨n, by omega, q, by omega⟩
      · obtain ⟨b, h1, h2, h3⟩ := bsN_at n (by omega)
        exact ⟨b, by omega, h2, by omega⟩
    · rw [if_neg q] at h ⊢
      obtain ⟨b, h1, h2, h3⟩ := bsN_at n (by omega)
      exact ⟨b, by omega, h2, by omega⟩
end GU
theorem rds_b {w : am_W} (I : ab_inv ab_TT ab_sets w) (j : Nat) : 0 ≤ rI w 86 j ∧ rI w 86 j ≤ 100000 := by
  by_cases q : j < 1296
  · exact rI_in I (p := 86) rfl q
  · have := (row_len I (p := 86) rfl).2.1
    unfold rI
    rw [List.getElem?_eq_none (by omega)]
    exact ⟨Int.le_refl _, by decide⟩
theorem q_mayGo {d : Nat} {w : am_W} (x : Int64) (a b : Int32) (hb : 0 ≤ b.toInt ∧ b.toInt < 64) : aw none (d + 1) 172 (fun r w1 => w = w1 ∧ ∃ z : Int32, r = some (.int z) ∧ ((z.toInt = 1 ∧ (a.toInt = b.toInt ∨ bt (n64 x) b.toInt.toNat = 1)) ∨ (z.toInt = 0 ∧ a.toInt ≠ b.toInt ∧ bt (n64 x) b.toInt.toNat ≠ 1))) (0, am_entry 172 [.ref 65, .long x, .int a, .int b], []) w := by
  show aw none (d + 1) 172 _ (0, [some (.ref 65), some (.long x), none, some (.int a), some (.int b)], []) w
  refine aw_step (f1 := (1, [some (.ref 65), some (.long x), none, some (.int a), some (.int b)], [(.int a)])) (w1 := w) rfl rfl ?_
  refine aw_step (f1 := (3, [some (.ref 65), some (.long x), none, some (.int a), some (.int b)], [(.int b), (.int a)])) (w1 := w) rfl rfl ?_
  refine s_ic 15 6 rfl rfl rfl (fun (h1 : a.toInt = b.toInt) => ?_) (fun (h1 : ¬ (a.toInt = b.toInt)) => ?_)
  · --
    refine s_i (pc1 := 16) (ls1 := [some (.ref 65), some (.long x), none, some (.int a), some (.int b)]) (st1 := []) rfl rfl fun x2 e3 => ?_
    have e3t : x2.toInt = 1 := by rw [e3]; rfl
    refine aw_step (f1 := (20, [some (.ref 65), some (.long x), none, some (.int a), some (.int b)], [(.int x2)])) (w1 := w) rfl rfl ?_
    refine aw_ret (v := some (.int x2)) rfl (am_retz (by omega)) ?_
    exact ⟨rfl, x2, rfl, by omega⟩
  · --
    refine aw_step (f1 := (7, [some (.ref 65), some (.long x), none, some (.int a), some (.int b)], [(.long x)])) (w1 := w) rfl rfl ?_
    refine aw_step (f1 := (9, [some (.ref 65), some (.long x), none, some (.int a), some (.int b)], [(.int b), (.long x)])) (w1 := w) rfl rfl ?_
    refine s_cs (z := 110) (as := [(.long x), (.int b)]) (st1 := []) 12 rfl rfl rfl rfl rfl rfl (Nat.le_of_ble_eq_true rfl) (Nat.le_of_ble_eq_true rfl) (Nat.le_of_ble_eq_true rfl) (q_has x b (by omega) (by omega)) ?_
    rintro _ _ ⟨rfl, x4, rfl, x4t⟩
    refine ⟨rfl, ?_⟩
    show aw none _ 172 _ (12, [some (.ref 65), some (.long x), none, some (.int a), some (.int b)], [(.int x4)]) w
    have x4l := bt_le (n64 x) b.toInt.toNat
    refine s_if 19 15 rfl rfl rfl (fun (h5 : x4.toInt = 0) => ?_) (fun (h5 : ¬ (x4.toInt = 0)) => ?_)
    · --
      refine s_i (pc1 := 20) (ls1 := [some (.ref 65), some (.long x), none, some (.int a), some (.int b)]) (st1 := []) rfl rfl fun x6 e7 => ?_
      have e7t : x6.toInt = 0 := by rw [e7]; rfl
      refine aw_ret (v := some (.int x6)) rfl (am_retz (by omega)) ?_
      exact ⟨rfl, x6, rfl, by omega⟩
    · --
      refine s_i (pc1 := 16) (ls1 := [some (.ref 65), some (.long x), none, some (.int a), some (.int b)]) (st1 := []) rfl rfl fun x8 e9 => ?_
      have e9t : x8.toInt = 1 := by rw [e9]; rfl
      refine aw_step (f1 := (20, [some (.ref 65), some (.long x), none, some (.int a), some (.int b)], [(.int x8)])) (w1 := w) rfl rfl ?_
      refine aw_ret (v := some (.int x8)) rfl (am_retz (by omega)) ?_
      exact ⟨rfl, x8, rfl, by omega⟩
theorem q_worstFromL {d : Nat} {w : am_W} (g t : Int32) (hg : 0 ≤ g.toInt ∧ g.toInt < 36) (ht : 0 ≤ t.toInt ∧ t.toInt < 36) (hgt : g.toInt ≠ t.toInt) (J : ab_J ab_TT ab_sets ab_WR w w) : ∀ (m : Nat) (mo i : Int32) (o5 : Option Value), (szM w - i.toInt).toNat < m → 0 ≤ i.toInt → i.toInt ≤ szM w → mo.toInt = wsN (rI w 86) (rL w 75 t.toInt.toNat) g.toInt.toNat t.toInt.toNat i.toInt.toNat → aw none (d + 2) 173 (fun r w1 => w = w1 ∧ ∃ z : Int32, r = some (.int z) ∧ z.toInt = wsT (rI w 86) (rL w 75 t.toInt.toNat) g.toInt.toNat t.toInt.toNat (szM w).toNat) (12, [some (.ref 65), some (.int g), some (.int t), some (.int mo), some (.int i), o5], []) w := by
  intro m
  induction m with
  | zero => intro mo i o5 p; omega
  | succ m ih =>
    intro mo i o5 p1 p2 p3 M
    have sz := szM_in J.1
    have mb := wsN_b (r := rI w 86) (y := rL w 75 t.toInt.toNat) (g := g.toInt.toNat) (t := t.toInt.toNat) (rds_b J.1) i.toInt.toNat
    refine aw_step (f1 := (14, [some (.ref 65), some (.int g), some (.int t), some (.int mo), some (.int i), o5], [(.int i)])) (w1 := w) rfl rfl ?_
    refine aw_step (f1 := (15, [some (.ref 65), some (.int g), some (.int t), some (.int mo), some (.int i), o5], [(.ref 65), (.int i)])) (w1 := w) rfl rfl ?_
    refine s_cv (z := 113) (p := 65) (as := []) (st1 := [(.int i)]) J 18 rfl rfl rfl rfl rfl rfl rfl rfl (Nat.le_of_ble_eq_true rfl) (Nat.le_of_ble_eq_true rfl) (q_cells J.1) ?_
    rintro _ _ ⟨rfl, x1, rfl, x1t⟩
    refine ⟨rfl, ?_⟩
    show aw none _ 173 _ (18, [some (.ref 65), some (.int g), some (.int t), some (.int mo), some (.int i), o5], [(.int x1), (.int i)]) w
    have x1s := szM_in J.1
    refine s_ic 84 21 rfl rfl rfl (fun (h2 : x1.toInt ≤ i.toInt) => ?_) (fun (h2 : ¬ (x1.toInt ≤ i.toInt)) => ?_)
    · --
      refine aw_step (f1 := (85, [some (.ref 65), some (.int g), some (.int t), some (.int mo), some (.int i), o5], [(.int mo)])) (w1 := w) rfl rfl ?_
      refine aw_ret (v := some (.int mo)) rfl rfl ?_
      exact ⟨rfl, mo, rfl, by unfold wsT; rw [if_neg (by omega), show (szM w).toNat = i.toInt.toNat by omega]; exact M⟩
    · --
      refine aw_step (f1 := (22, [some (.ref 65), some (.int g), some (.int t), some (.int mo), some (.int i), o5], [(.ref 65)])) (w1 := w) rfl rfl ?_
      refine aw_step (f1 := (23, [some (.ref 65), some (.int g), some (.int t), some (.int mo), some (.int i), o5], [(.ref 65), (.ref 65)])) (w1 := w) rfl rfl ?_
      refine s_gr 75 J 26 rfl rfl rfl rfl rfl rfl ?_
      refine aw_step (f1 := (27, [some (.ref 65), some (.int g), some (.int t), some (.int mo), some (.int i), o5], [(.int t), (.ref 75), (.ref 65)])) (w1 := w) rfl rfl ?_
      refine s_la J 28 rfl rfl rfl (by omega) (by omega) fun y3 y3a y3b y3f => ?_
      have hrl := rL_of y3f
      refine aw_step (f1 := (29, [some (.ref 65), some (.int g), some (.int t), some (.int mo), some (.int i), o5], [(.int t), (.long y3), (.ref 65)])) (w1 := w) rfl rfl ?_
      refine aw_step (f1 := (31, [some (.ref 65), some (.int g), some (.int t), some (.int mo), some (.int i), o5], [(.int i), (.int t), (.long y3), (.ref 65)])) (w1 := w) rfl rfl ?_
      refine s_cv (z := 172) (p := 65) (as := [(.long y3), (.int t), (.int i)]) (st1 := []) J 34 rfl rfl rfl rfl rfl rfl rfl rfl (Nat.le_of_ble_eq_true rfl) (Nat.le_of_ble_eq_true rfl) (q_mayGo y3 t i ⟨by omega, by omega⟩) ?_
      rintro _ _ ⟨rfl, x4, rfl, x4t⟩
      refine ⟨rfl, ?_⟩
      show aw none _ 173 _ (34, [some (.ref 65), some (.int g), some (.int t), some (.int mo), some (.int i), o5], [(.int x4)]) w
      rw [← hrl] at x4t
      refine s_if 41 37 rfl rfl rfl (fun (h5 : ¬ x4.toInt = 0) => ?_) (fun (h5 : ¬ (¬ x4.toInt = 0)) => ?_)
      · --
        refine aw_step (f1 := (43, [some (.ref 65), some (.int g), some (.int t), some (.int mo), some (.int i), o5], [(.int i)])) (w1 := w) rfl rfl ?_
        refine aw_step (f1 := (44, [some (.ref 65), some (.int g), some (.int t), some (.int mo), some (.int i), o5], [(.int g), (.int i)])) (w1 := w) rfl rfl ?_
        refine s_ic 51 47 rfl rfl rfl (fun (h6 : ¬ i.toInt = g.toInt) => ?_) (fun (h6 : ¬ (¬ i.toInt = g.toInt)) => ?_)
        · --
          refine aw_step (f1 := (52, [some (.ref 65), some (.int g), some (.int t), some (.int mo), some (.int i), o5], [(.ref 65)])) (w1 := w) rfl rfl ?_
          refine s_gr 86 J 55 rfl rfl rfl rfl rfl rfl ?_
          refine s_i (pc1 := 57) (ls1 := [some (.ref 65), some (.int g), some (.int t), some (.int mo), some (.int i), o5]) (st1 := [(.ref 86)]) rfl rfl fun x7 e8 => ?_
          have e8t : x7.toInt = 36 := by rw [e8]; rfl
          refine aw_step (f1 := (58, [some (.ref 65), some (.int g), some (.int t), some (.int mo), some (.int i), o5], [(.int g), (.int x7), (.ref 86)])) (w1 := w) rfl rfl ?_
          refine s_i (pc1 := 59) (ls1 := [some (.ref 65), some (.int g), some (.int t), some (.int mo), some (.int i), o5]) (st1 := [(.ref 86)]) rfl rfl fun x9 e10 => ?_
          have e10 : x9 = x7 * g := e10
          have e10t : x9.toInt = 36 * g.toInt := by rw [e10, n_mul (by rw [e8t]; omega) (by rw [e8t]; omega), e8t]
          refine aw_step (f1 := (61, [some (.ref 65), some (.int g), some (.int t), some (.int mo), some (.int i), o5], [(.int i), (.int x9), (.ref 86)])) (w1 := w) rfl rfl ?_
          refine s_i (pc1 := 62) (ls1 := [some (.ref 65), some (.int g), some (.int t), some (.int mo), some (.int i), o5]) (st1 := [(.ref 86)]) rfl rfl fun x11 e12 => ?_
          have e12 : x11 = x9 + i := e12
          have e12t : x11.toInt = x9.toInt + i.toInt := by rw [e12]; exact n_add (by omega) (by omega)
          --
          refine s_ia J 63 rfl rfl rfl rfl (by omega) (by omega) fun x13 x13a x13b x13f => ?_
          refine aw_step (f1 := (65, [some (.ref 65), some (.int g), some (.int t), some (.int mo), some (.int i), some (.int x13)], [])) (w1 := w) rfl rfl ?_
          refine aw_step (f1 := (67, [some (.ref 65), some (.int g), some (.int t), some (.int mo), some (.int i), some (.int x13)], [(.int x13)])) (w1 := w) rfl rfl ?_
          refine aw_step (f1 := (68, [some (.ref 65), some (.int g), some (.int t), some (.int mo), some (.int i), some (.int x13)], [(.int mo), (.int x13)])) (w1 := w) rfl rfl ?_
          refine s_ic 76 71 rfl rfl rfl (fun (h14 : x13.toInt ≤ mo.toInt) => ?_) (fun (h14 : ¬ (x13.toInt ≤ mo.toInt)) => ?_)
          · --
            refine aw_step (f1 := (77, [some (.ref 65), some (.int g), some (.int t), some (.int mo), some (.int i), some (.int x13)], [(.int mo)])) (w1 := w) rfl rfl ?_
            refine aw_step (f1 := (78, [some (.ref 65), some (.int g), some (.int t), some (.int mo), some (.int i), some (.int x13)], [])) (w1 := w) rfl rfl ?_
            refine aw_step (f1 := (81, [some (.ref 65), some (.int g), some (.int t), some (.int mo), some (.int (i + Int32.ofInt 1)), some (.int x13)], [])) (w1 := w) rfl rfl ?_
            obtain ⟨x15, x15e⟩ : ∃ z, z = (i + Int32.ofInt 1) := ⟨_, rfl⟩
            have x15t : x15.toInt = i.toInt + (1) := by rw [x15e]; exact n_add (y := Int32.ofInt (1)) (by show _ ≤ _ + (1 : Int); omega) (by show _ + (1 : Int) ≤ _; omega)
            rw [← x15e]
            refine aw_step (f1 := (12, [some (.ref 65), some (.int g), some (.int t), some (.int mo), some (.int x15), some (.int x13)], [])) (w1 := w) rfl rfl ?_
            have ce : (if (t.toInt.toNat = i.toInt.toNat ∨ bt (rL w 75 t.toInt.toNat) i.toInt.toNat = 1) ∧ i.toInt.toNat ≠ g.toInt.toNat then rI w 86 (36 * g.toInt.toNat + i.toInt.toNat) else 0) = x13.toInt := by
              rw [if_pos ⟨by omega, by omega⟩, show 36 * g.toInt.toNat + i.toInt.toNat = x11.toInt.toNat by omega]
              exact rI_of x13f
            exact ih mo x15 _ (by omega) (by omega) (by omega) (by rw [show x15.toInt.toNat = i.toInt.toNat + 1 by omega]; unfold wsN; omega)
          · --
            refine aw_step (f1 := (73, [some (.ref 65), some (.int g), some (.int t), some (.int mo), some (.int i), some (.int x13)], [(.int x13)])) (w1 := w) rfl rfl ?_
            refine aw_step (f1 := (77, [some (.ref 65), some (.int g), some (.int t), some (.int mo), some (.int i), some (.int x13)], [(.int x13)])) (w1 := w) rfl rfl ?_
            refine aw_step (f1 := (78, [some (.ref 65), some (.int g), some (.int t), some (.int x13), some (.int i), some (.int x13)], [])) (w1 := w) rfl rfl ?_
            refine aw_step (f1 := (81, [some (.ref 65), some (.int g), some (.int t), some (.int x13), some (.int (i + Int32.ofInt 1)), some (.int x13)], [])) (w1 := w) rfl rfl ?_
            obtain ⟨x16, x16e⟩ : ∃ z, z = (i + Int32.ofInt 1) := ⟨_, rfl⟩
            have x16t : x16.toInt = i.toInt + (1) := by rw [x16e]; exact n_add (y := Int32.ofInt (1)) (by show _ ≤ _ + (1 : Int); omega) (by show _ + (1 : Int) ≤ _; omega)
            rw [← x16e]
            refine aw_step (f1 := (12, [some (.ref 65), some (.int g), some (.int t), some (.int x13), some (.int x16), some (.int x13)], [])) (w1 := w) rfl rfl ?_
            have ce : (if (t.toInt.toNat = i.toInt.toNat ∨ bt (rL w 75 t.toInt.toNat) i.toInt.toNat = 1) ∧ i.toInt.toNat ≠ g.toInt.toNat then rI w 86 (36 * g.toInt.toNat + i.toInt.toNat) else 0) = x13.toInt := by
              rw [if_pos ⟨by omega, by omega⟩, show 36 * g.toInt.toNat + i.toInt.toNat = x11.toInt.toNat by omega]
              exact rI_of x13f
            exact ih x13 x16 _ (by omega) (by omega) (by omega) (by rw [show x16.toInt.toNat = i.toInt.toNat + 1 by omega]; unfold wsN; omega)
        · --
          --
          refine s_i (pc1 := 48) (ls1 := [some (.ref 65), some (.int g), some (.int t), some (.int mo), some (.int i), o5]) (st1 := []) rfl rfl fun x17 e18 => ?_
          have e18t : x17.toInt = 0 := by rw [e18]; rfl
          refine aw_step (f1 := (63, [some (.ref 65), some (.int g), some (.int t), some (.int mo), some (.int i), o5], [(.int x17)])) (w1 := w) rfl rfl ?_
          refine aw_step (f1 := (65, [some (.ref 65), some (.int g), some (.int t), some (.int mo), some (.int i), some (.int x17)], [])) (w1 := w) rfl rfl ?_
          refine aw_step (f1 := (67, [some (.ref 65), some (.int g), some (.int t), some (.int mo), some (.int i), some (.int x17)], [(.int x17)])) (w1 := w) rfl rfl ?_
          refine aw_step (f1 := (68, [some (.ref 65), some (.int g), some (.int t), some (.int mo), some (.int i), some (.int x17)], [(.int mo), (.int x17)])) (w1 := w) rfl rfl ?_
          refine s_ic 76 71 rfl rfl rfl (fun (h19 : x17.toInt ≤ mo.toInt) => ?_) (fun (h19 : ¬ (x17.toInt ≤ mo.toInt)) => ?_)
          · --
            refine aw_step (f1 := (77, [some (.ref 65), some (.int g), some (.int t), some (.int mo), some (.int i), some (.int x17)], [(.int mo)])) (w1 := w) rfl rfl ?_
            refine aw_step (f1 := (78, [some (.ref 65), some (.int g), some (.int t), some (.int mo), some (.int i), some (.int x17)], [])) (w1 := w) rfl rfl ?_
            refine aw_step (f1 := (81, [some (.ref 65), some (.int g), some (.int t), some (.int mo), some (.int (i + Int32.ofInt 1)), some (.int x17)], [])) (w1 := w) rfl rfl ?_
            obtain ⟨x20, x20e⟩ : ∃ z, z = (i + Int32.ofInt 1) := ⟨_, rfl⟩
            have x20t : x20.toInt = i.toInt + (1) := by rw [x20e]; exact n_add (y := Int32.ofInt (1)) (by show _ ≤ _ + (1 : Int); omega) (by show _ + (1 : Int) ≤ _; omega)
            rw [← x20e]
            refine aw_step (f1 := (12, [some (.ref 65), some (.int g), some (.int t), some (.int mo), some (.int x20), some (.int x17)], [])) (w1 := w) rfl rfl ?_
            have ce : (if (t.toInt.toNat = i.toInt.toNat ∨ bt (rL w 75 t.toInt.toNat) i.toInt.toNat = 1) ∧ i.toInt.toNat ≠ g.toInt.toNat then rI w 86 (36 * g.toInt.toNat + i.toInt.toNat) else 0) = x17.toInt := by
              rw [if_neg (by omega)]; omega
            exact ih mo x20 _ (by omega) (by omega) (by omega) (by rw [show x20.toInt.toNat = i.toInt.toNat + 1 by omega]; unfold wsN; omega)
          · --
            refine aw_step (f1 := (73, [some (.ref 65), some (.int g), some (.int t), some (.int mo), some (.int i), some (.int x17)], [(.int x17)])) (w1 := w) rfl rfl ?_
            refine aw_step (f1 := (77, [some (.ref 65), some (.int g), some (.int t), some (.int mo), some (.int i), some (.int x17)], [(.int x17)])) (w1 := w) rfl rfl ?_
            refine aw_step (f1 := (78, [some (.ref 65), some (.int g), some (.int t), some (.int x17), some (.int i), some (.int x17)], [])) (w1 := w) rfl rfl ?_
            refine aw_step (f1 := (81, [some (.ref 65), some (.int g), some (.int t), some (.int x17), some (.int (i + Int32.ofInt 1)), some (.int x17)], [])) (w1 := w) rfl rfl ?_
            obtain ⟨x21, x21e⟩ : ∃ z, z = (i + Int32.ofInt 1) := ⟨_, rfl⟩
            have x21t : x21.toInt = i.toInt + (1) := by rw [x21e]; exact n_add (y := Int32.ofInt (1)) (by show _ ≤ _ + (1 : Int); omega) (by show _ + (1 : Int) ≤ _; omega)
            rw [← x21e]
            refine aw_step (f1 := (12, [some (.ref 65), some (.int g), some (.int t), some (.int x17), some (.int x21), some (.int x17)], [])) (w1 := w) rfl rfl ?_
            have ce : (if (t.toInt.toNat = i.toInt.toNat ∨ bt (rL w 75 t.toInt.toNat) i.toInt.toNat = 1) ∧ i.toInt.toNat ≠ g.toInt.toNat then rI w 86 (36 * g.toInt.toNat + i.toInt.toNat) else 0) = x17.toInt := by
              rw [if_neg (by omega)]; omega
            exact ih x17 x21 _ (by omega) (by omega) (by omega) (by rw [show x21.toInt.toNat = i.toInt.toNat + 1 by omega]; unfold wsN; omega)
      · --
        --
        refine s_i (pc1 := 38) (ls1 := [some (.ref 65), some (.int g), some (.int t), some (.int mo), some (.int i), o5]) (st1 := []) rfl rfl fun x22 e23 => ?_
        have e23t : x22.toInt = 0 := by rw [e23]; rfl
        refine aw_step (f1 := (63, [some (.ref 65), some (.int g), some (.int t), some (.int mo), some (.int i), o5], [(.int x22)])) (w1 := w) rfl rfl ?_
        refine aw_step (f1 := (65, [some (.ref 65), some (.int g), some (.int t), some (.int mo), some (.int i), some (.int x22)], [])) (w1 := w) rfl rfl ?_
        refine aw_step (f1 := (67, [some (.ref 65), some (.int g), some (.int t), some (.int mo), some (.int i), some (.int x22)], [(.int x22)])) (w1 := w) rfl rfl ?_
        refine aw_step (f1 := (68, [some (.ref 65), some (.int g), some (.int t), some (.int mo), some (.int i), some (.int x22)], [(.int mo), (.int x22)])) (w1 := w) rfl rfl ?_
        refine s_ic 76 71 rfl rfl rfl (fun (h24 : x22.toInt ≤ mo.toInt) => ?_) (fun (h24 : ¬ (x22.toInt ≤ mo.toInt)) => ?_)
        · --
          refine aw_step (f1 := (77, [some (.ref 65), some (.int g), some (.int t), some (.int mo), some (.int i), some (.int x22)], [(.int mo)])) (w1 := w) rfl rfl ?_
          refine aw_step (f1 := (78, [some (.ref 65), some (.int g), some (.int t), some (.int mo), some (.int i), some (.int x22)], [])) (w1 := w) rfl rfl ?_
          refine aw_step (f1 := (81, [some (.ref 65), some (.int g), some (.int t), some (.int mo), some (.int (i + Int32.ofInt 1)), some (.int x22)], [])) (w1 := w) rfl rfl ?_
          obtain ⟨x25, x25e⟩ : ∃ z, z = (i + Int32.ofInt 1) := ⟨_, rfl⟩
          have x25t : x25.toInt = i.toInt + (1) := by rw [x25e]; exact n_add (y := Int32.ofInt (1)) (by show _ ≤ _ + (1 : Int); omega) (by show _ + (1 : Int) ≤ _; omega)
          rw [← x25e]
          refine aw_step (f1 := (12, [some (.ref 65), some (.int g), some (.int t), some (.int mo), some (.int x25), some (.int x22)], [])) (w1 := w) rfl rfl ?_
          have ce : (if (t.toInt.toNat = i.toInt.toNat ∨ bt (rL w 75 t.toInt.toNat) i.toInt.toNat = 1) ∧ i.toInt.toNat ≠ g.toInt.toNat then rI w 86 (36 * g.toInt.toNat + i.toInt.toNat) else 0) = x22.toInt := by
            rw [if_neg (by omega)]; omega
          exact ih mo x25 _ (by omega) (by omega) (by omega) (by rw [show x25.toInt.toNat = i.toInt.toNat + 1 by omega]; unfold wsN; omega)
        · --
          refine aw_step (f1 := (73, [some (.ref 65), some (.int g), some (.int t), some (.int mo), some (.int i), some (.int x22)], [(.int x22)])) (w1 := w) rfl rfl ?_
          refine aw_step (f1 := (77, [some (.ref 65), some (.int g), some (.int t), some (.int mo), some (.int i), some (.int x22)], [(.int x22)])) (w1 := w) rfl rfl ?_
          refine aw_step (f1 := (78, [some (.ref 65), some (.int g), some (.int t), some (.int x22), some (.int i), some (.int x22)], [])) (w1 := w) rfl rfl ?_
          refine aw_step (f1 := (81, [some (.ref 65), some (.int g), some (.int t), some (.int x22), some (.int (i + Int32.ofInt 1)), some (.int x22)], [])) (w1 := w) rfl rfl ?_
          obtain ⟨x26, x26e⟩ : ∃ z, z = (i + Int32.ofInt 1) := ⟨_, rfl⟩
          have x26t : x26.toInt = i.toInt + (1) := by rw [x26e]; exact n_add (y := Int32.ofInt (1)) (by show _ ≤ _ + (1 : Int); omega) (by show _ + (1 : Int) ≤ _; omega)
          rw [← x26e]
          refine aw_step (f1 := (12, [some (.ref 65), some (.int g), some (.int t), some (.int x22), some (.int x26), some (.int x22)], [])) (w1 := w) rfl rfl ?_
          have ce : (if (t.toInt.toNat = i.toInt.toNat ∨ bt (rL w 75 t.toInt.toNat) i.toInt.toNat = 1) ∧ i.toInt.toNat ≠ g.toInt.toNat then rI w 86 (36 * g.toInt.toNat + i.toInt.toNat) else 0) = x22.toInt := by
            rw [if_neg (by omega)]; omega
          exact ih x22 x26 _ (by omega) (by omega) (by omega) (by rw [show x26.toInt.toNat = i.toInt.toNat + 1 by omega]; unfold wsN; omega)
theorem q_worstFrom {d : Nat} {w : am_W} (g t : Int32) (hg : 0 ≤ g.toInt ∧ g.toInt < 36) (ht : 0 ≤ t.toInt ∧ t.toInt < 36) (I : ab_inv ab_TT ab_sets w) : aw none (d + 2) 173 (fun r w1 => w = w1 ∧ ∃ z : Int32, r = some (.int z) ∧ z.toInt = wsT (rI w 86) (rL w 75 t.toInt.toNat) g.toInt.toNat t.toInt.toNat (szM w).toNat) (0, am_entry 173 [.ref 65, .int g, .int t], []) w := by
  have J : ab_J ab_TT ab_sets ab_WR w w := ⟨I, ab_fr.rf⟩
  have sz := szM_in I
  show aw none (d + 2) 173 _ (0, [some (.ref 65), some (.int g), some (.int t), none, none, none], []) w
  refine aw_step (f1 := (1, [some (.ref 65), some (.int g), some (.int t), none, none, none], [(.int g)])) (w1 := w) rfl rfl ?_
  refine aw_step (f1 := (2, [some (.ref 65), some (.int g), some (.int t), none, none, none], [(.int t), (.int g)])) (w1 := w) rfl rfl ?_
  refine s_ic 7 5 rfl rfl rfl (fun (h1 : ¬ g.toInt = t.toInt) => ?_) (fun (h1 : ¬ (¬ g.toInt = t.toInt)) => ?_)
  · --
    refine s_i (pc1 := 8) (ls1 := [some (.ref 65), some (.int g), some (.int t), none, none, none]) (st1 := []) rfl rfl fun x2 e3 => ?_
    have e3t : x2.toInt = 0 := by rw [e3]; rfl
    refine aw_step (f1 := (9, [some (.ref 65), some (.int g), some (.int t), some (.int x2), none, none], [])) (w1 := w) rfl rfl ?_
    refine s_i (pc1 := 10) (ls1 := [some (.ref 65), some (.int g), some (.int t), some (.int x2), none, none]) (st1 := []) rfl rfl fun x4 e5 => ?_
    have e5t : x4.toInt = 0 := by rw [e5]; rfl
    refine aw_step (f1 := (12, [some (.ref 65), some (.int g), some (.int t), some (.int x2), some (.int x4), none], [])) (w1 := w) rfl rfl ?_
    exact q_worstFromL g t hg ht (by omega) J 37 x2 x4 _ (by omega) (by omega) (by omega) (by rw [e3t, e5t]; rfl)
  · --
    refine s_i (pc1 := 6) (ls1 := [some (.ref 65), some (.int g), some (.int t), none, none, none]) (st1 := []) rfl rfl fun x6 e7 => ?_
    have e7t : x6.toInt = 0 := by rw [e7]; rfl
    refine aw_ret (v := some (.int x6)) rfl rfl ?_
    exact ⟨rfl, x6, rfl, by unfold wsT; rw [if_pos (by omega)]; omega⟩
theorem q_bestFromL {d : Nat} {w : am_W} (g t : Int32) (hg : 0 ≤ g.toInt ∧ g.toInt < 36) (ht : 0 ≤ t.toInt ∧ t.toInt < 36) (J : ab_J ab_TT ab_sets ab_WR w w) : ∀ (m : Nat) (le i : Int32) (o5 : Option Value), (szM w - i.toInt).toNat < m → 0 ≤ i.toInt → i.toInt ≤ szM w → le.toInt = bsN (rI w 86) (rL w 74 g.toInt.toNat) (rL w 75 t.toInt.toNat) g.toInt.toNat t.toInt.toNat (szM w).toNat i.toInt.toNat → aw none (d + 3) 174 (fun r w1 => w = w1 ∧ ∃ z : Int32, r = some (.int z) ∧ z.toInt = bst (rI w 86) (rL w 74 g.toInt.toNat) (rL w 75 t.toInt.toNat) g.toInt.toNat t.toInt.toNat (szM w).toNat) (6, [some (.ref 65), some (.int g), some (.int t), some (.int le), some (.int i), o5], []) w := by
  intro m
  induction m with
  | zero => intro le i o5 p; omega
  | succ m ih =>
    intro le i o5 p1 p2 p3 M
    have sz := szM_in J.1
    have mb := bsN_b (r := rI w 86) (x := rL w 74 g.toInt.toNat) (y := rL w 75 t.toInt.toNat) (g := g.toInt.toNat) (t := t.toInt.toNat) (sz := (szM w).toNat) (rds_b J.1) (by omega) i.toInt.toNat (by omega)
    refine aw_step (f1 := (8, [some (.ref 65), some (.int g), some (.int t), some (.int le), some (.int i), o5], [(.int i)])) (w1 := w) rfl rfl ?_
    refine aw_step (f1 := (9, [some (.ref 65), some (.int g), some (.int t), some (.int le), some (.int i), o5], [(.ref 65), (.int i)])) (w1 := w) rfl rfl ?_
    refine s_cv (z := 113) (p := 65) (as := []) (st1 := [(.int i)]) J 12 rfl rfl rfl rfl rfl rfl rfl rfl (Nat.le_of_ble_eq_true rfl) (Nat.le_of_ble_eq_true rfl) (q_cells J.1) ?_
    rintro _ _ ⟨rfl, x1, rfl, x1t⟩
    refine ⟨rfl, ?_⟩
    show aw none _ 174 _ (12, [some (.ref 65), some (.int g), some (.int t), some (.int le), some (.int i), o5], [(.int x1), (.int i)]) w
    have x1s := szM_in J.1
    refine s_ic 64 15 rfl rfl rfl (fun (h2 : x1.toInt ≤ i.toInt) => ?_) (fun (h2 : ¬ (x1.toInt ≤ i.toInt)) => ?_)
    · --
      rw [show i.toInt.toNat = (szM w).toNat by omega] at M mb
      refine aw_step (f1 := (65, [some (.ref 65), some (.int g), some (.int t), some (.int le), some (.int i), o5], [(.int le)])) (w1 := w) rfl rfl ?_
      refine s_i (pc1 := 67) (ls1 := [some (.ref 65), some (.int g), some (.int t), some (.int le), some (.int i), o5]) (st1 := [(.int le)]) rfl rfl fun x3 e4 => ?_
      have e4t : x3.toInt = 100000 := by rw [e4]; rfl
      refine s_ic 75 70 rfl rfl rfl (fun (h5 : ¬ le.toInt = x3.toInt) => ?_) (fun (h5 : ¬ (¬ le.toInt = x3.toInt)) => ?_)
      · --
        refine aw_step (f1 := (76, [some (.ref 65), some (.int g), some (.int t), some (.int le), some (.int i), o5], [(.int le)])) (w1 := w) rfl rfl ?_
        refine s_i (pc1 := 77) (ls1 := [some (.ref 65), some (.int g), some (.int t), some (.int le), some (.int i), o5]) (st1 := [(.int le)]) rfl rfl fun x6 e7 => ?_
        have e7t : x6.toInt = 1 := by rw [e7]; rfl
        refine s_i (pc1 := 78) (ls1 := [some (.ref 65), some (.int g), some (.int t), some (.int le), some (.int i), o5]) (st1 := []) rfl rfl fun x8 e9 => ?_
        have e9 : x8 = le + x6 := e9
        have e9t : x8.toInt = le.toInt + x6.toInt := by rw [e9]; exact n_add (by omega) (by omega)
        refine aw_ret (v := some (.int x8)) rfl rfl ?_
        exact ⟨rfl, x8, rfl, by unfold bst; split <;> omega⟩
      · --
        refine s_i (pc1 := 72) (ls1 := [some (.ref 65), some (.int g), some (.int t), some (.int le), some (.int i), o5]) (st1 := []) rfl rfl fun x10 e11 => ?_
        have e11t : x10.toInt = 100000 := by rw [e11]; rfl
        refine aw_step (f1 := (78, [some (.ref 65), some (.int g), some (.int t), some (.int le), some (.int i), o5], [(.int x10)])) (w1 := w) rfl rfl ?_
        refine aw_ret (v := some (.int x10)) rfl rfl ?_
        exact ⟨rfl, x10, rfl, by unfold bst; split <;> omega⟩
    · --
      refine aw_step (f1 := (16, [some (.ref 65), some (.int g), some (.int t), some (.int le), some (.int i), o5], [(.ref 65)])) (w1 := w) rfl rfl ?_
      refine aw_step (f1 := (17, [some (.ref 65), some (.int g), some (.int t), some (.int le), some (.int i), o5], [(.ref 65), (.ref 65)])) (w1 := w) rfl rfl ?_
      refine s_gr 74 J 20 rfl rfl rfl rfl rfl rfl ?_
      refine aw_step (f1 := (21, [some (.ref 65), some (.int g), some (.int t), some (.int le), some (.int i), o5], [(.int g), (.ref 74), (.ref 65)])) (w1 := w) rfl rfl ?_
      refine s_la J 22 rfl rfl rfl (by omega) (by omega) fun y12 y12a y12b y12f => ?_
      have hrl := rL_of y12f
      refine aw_step (f1 := (23, [some (.ref 65), some (.int g), some (.int t), some (.int le), some (.int i), o5], [(.int g), (.long y12), (.ref 65)])) (w1 := w) rfl rfl ?_
      refine aw_step (f1 := (25, [some (.ref 65), some (.int g), some (.int t), some (.int le), some (.int i), o5], [(.int i), (.int g), (.long y12), (.ref 65)])) (w1 := w) rfl rfl ?_
      refine s_cv (z := 172) (p := 65) (as := [(.long y12), (.int g), (.int i)]) (st1 := []) J 28 rfl rfl rfl rfl rfl rfl rfl rfl (Nat.le_of_ble_eq_true rfl) (Nat.le_of_ble_eq_true rfl) (q_mayGo y12 g i ⟨by omega, by omega⟩) ?_
      rintro _ _ ⟨rfl, x13, rfl, x13t⟩
      refine ⟨rfl, ?_⟩
      show aw none _ 174 _ (28, [some (.ref 65), some (.int g), some (.int t), some (.int le), some (.int i), o5], [(.int x13)]) w
      rw [← hrl] at x13t
      refine s_if 41 31 rfl rfl rfl (fun (h14 : x13.toInt = 0) => ?_) (fun (h14 : ¬ (x13.toInt = 0)) => ?_)
      · --
        --
        refine s_i (pc1 := 43) (ls1 := [some (.ref 65), some (.int g), some (.int t), some (.int le), some (.int i), o5]) (st1 := []) rfl rfl fun x15 e16 => ?_
        have e16t : x15.toInt = 100000 := by rw [e16]; rfl
        refine aw_step (f1 := (45, [some (.ref 65), some (.int g), some (.int t), some (.int le), some (.int i), some (.int x15)], [])) (w1 := w) rfl rfl ?_
        refine aw_step (f1 := (47, [some (.ref 65), some (.int g), some (.int t), some (.int le), some (.int i), some (.int x15)], [(.int x15)])) (w1 := w) rfl rfl ?_
        refine aw_step (f1 := (48, [some (.ref 65), some (.int g), some (.int t), some (.int le), some (.int i), some (.int x15)], [(.int le), (.int x15)])) (w1 := w) rfl rfl ?_
        refine s_ic 56 51 rfl rfl rfl (fun (h17 : le.toInt ≤ x15.toInt) => ?_) (fun (h17 : ¬ (le.toInt ≤ x15.toInt)) => ?_)
        · --
          refine aw_step (f1 := (57, [some (.ref 65), some (.int g), some (.int t), some (.int le), some (.int i), some (.int x15)], [(.int le)])) (w1 := w) rfl rfl ?_
          refine aw_step (f1 := (58, [some (.ref 65), some (.int g), some (.int t), some (.int le), some (.int i), some (.int x15)], [])) (w1 := w) rfl rfl ?_
          refine aw_step (f1 := (61, [some (.ref 65), some (.int g), some (.int t), some (.int le), some (.int (i + Int32.ofInt 1)), some (.int x15)], [])) (w1 := w) rfl rfl ?_
          obtain ⟨x18, x18e⟩ : ∃ z, z = (i + Int32.ofInt 1) := ⟨_, rfl⟩
          have x18t : x18.toInt = i.toInt + (1) := by rw [x18e]; exact n_add (y := Int32.ofInt (1)) (by show _ ≤ _ + (1 : Int); omega) (by show _ + (1 : Int) ≤ _; omega)
          rw [← x18e]
          refine aw_step (f1 := (6, [some (.ref 65), some (.int g), some (.int t), some (.int le), some (.int x18), some (.int x15)], [])) (w1 := w) rfl rfl ?_
          have ce : (if g.toInt.toNat = i.toInt.toNat ∨ bt (rL w 74 g.toInt.toNat) i.toInt.toNat = 1 then wsT (rI w 86) (rL w 75 t.toInt.toNat) i.toInt.toNat t.toInt.toNat (szM w).toNat else 100000) = x15.toInt := by rw [if_neg (by omega)]; omega
          exact ih le x18 _ (by omega) (by omega) (by omega) (by rw [show x18.toInt.toNat = i.toInt.toNat + 1 by omega]; unfold bsN; omega)
        · --
          refine aw_step (f1 := (53, [some (.ref 65), some (.int g), some (.int t), some (.int le), some (.int i), some (.int x15)], [(.int x15)])) (w1 := w) rfl rfl ?_
          refine aw_step (f1 := (57, [some (.ref 65), some (.int g), some (.int t), some (.int le), some (.int i), some (.int x15)], [(.int x15)])) (w1 := w) rfl rfl ?_
          refine aw_step (f1 := (58, [some (.ref 65), some (.int g), some (.int t), some (.int x15), some (.int i), some (.int x15)], [])) (w1 := w) rfl rfl ?_
          refine aw_step (f1 := (61, [some (.ref 65), some (.int g), some (.int t), some (.int x15), some (.int (i + Int32.ofInt 1)), some (.int x15)], [])) (w1 := w) rfl rfl ?_
          obtain ⟨x19, x19e⟩ : ∃ z, z = (i + Int32.ofInt 1) := ⟨_, rfl⟩
          have x19t : x19.toInt = i.toInt + (1) := by rw [x19e]; exact n_add (y := Int32.ofInt (1)) (by show _ ≤ _ + (1 : Int); omega) (by show _ + (1 : Int) ≤ _; omega)
          rw [← x19e]
          refine aw_step (f1 := (6, [some (.ref 65), some (.int g), some (.int t), some (.int x15), some (.int x19), some (.int x15)], [])) (w1 := w) rfl rfl ?_
          have ce : (if g.toInt.toNat = i.toInt.toNat ∨ bt (rL w 74 g.toInt.toNat) i.toInt.toNat = 1 then wsT (rI w 86) (rL w 75 t.toInt.toNat) i.toInt.toNat t.toInt.toNat (szM w).toNat else 100000) = x15.toInt := by rw [if_neg (by omega)]; omega
          exact ih x15 x19 _ (by omega) (by omega) (by omega) (by rw [show x19.toInt.toNat = i.toInt.toNat + 1 by omega]; unfold bsN; omega)
      · --
        --
        refine aw_step (f1 := (32, [some (.ref 65), some (.int g), some (.int t), some (.int le), some (.int i), o5], [(.ref 65)])) (w1 := w) rfl rfl ?_
        refine aw_step (f1 := (34, [some (.ref 65), some (.int g), some (.int t), some (.int le), some (.int i), o5], [(.int i), (.ref 65)])) (w1 := w) rfl rfl ?_
        refine aw_step (f1 := (35, [some (.ref 65), some (.int g), some (.int t), some (.int le), some (.int i), o5], [(.int t), (.int i), (.ref 65)])) (w1 := w) rfl rfl ?_
        refine s_cv (z := 173) (p := 65) (as := [(.int i), (.int t)]) (st1 := []) J 38 rfl rfl rfl rfl rfl rfl rfl rfl (Nat.le_of_ble_eq_true rfl) (Nat.le_of_ble_eq_true rfl) (q_worstFrom i t ⟨by omega, by omega⟩ ⟨by omega, by omega⟩ J.1) ?_
        rintro _ _ ⟨rfl, x20, rfl, x20t⟩
        refine ⟨rfl, ?_⟩
        show aw none _ 174 _ (38, [some (.ref 65), some (.int g), some (.int t), some (.int le), some (.int i), o5], [(.int x20)]) w
        have x20b := wsT_b (r := rI w 86) (y := rL w 75 t.toInt.toNat) (g := i.toInt.toNat) (t := t.toInt.toNat) (sz := (szM w).toNat) (rds_b J.1) (by omega) (by have := szM_in J.1; omega)
        refine aw_step (f1 := (43, [some (.ref 65), some (.int g), some (.int t), some (.int le), some (.int i), o5], [(.int x20)])) (w1 := w) rfl rfl ?_
        refine aw_step (f1 := (45, [some (.ref 65), some (.int g), some (.int t), some (.int le), some (.int i), some (.int x20)], [])) (w1 := w) rfl rfl ?_
        refine aw_step (f1 := (47, [some (.ref 65), some (.int g), some (.int t), some (.int le), some (.int i), some (.int x20)], [(.int x20)])) (w1 := w) rfl rfl ?_
        refine aw_step (f1 := (48, [some (.ref 65), some (.int g), some (.int t), some (.int le), some (.int i), some (.int x20)], [(.int le), (.int x20)])) (w1 := w) rfl rfl ?_
        refine s_ic 56 51 rfl rfl rfl (fun (h21 : le.toInt ≤ x20.toInt) => ?_) (fun (h21 : ¬ (le.toInt ≤ x20.toInt)) => ?_)
        · --
          refine aw_step (f1 := (57, [some (.ref 65), some (.int g), some (.int t), some (.int le), some (.int i), some (.int x20)], [(.int le)])) (w1 := w) rfl rfl ?_
          refine aw_step (f1 := (58, [some (.ref 65), some (.int g), some (.int t), some (.int le), some (.int i), some (.int x20)], [])) (w1 := w) rfl rfl ?_
          refine aw_step (f1 := (61, [some (.ref 65), some (.int g), some (.int t), some (.int le), some (.int (i + Int32.ofInt 1)), some (.int x20)], [])) (w1 := w) rfl rfl ?_
          obtain ⟨x22, x22e⟩ : ∃ z, z = (i + Int32.ofInt 1) := ⟨_, rfl⟩
          have x22t : x22.toInt = i.toInt + (1) := by rw [x22e]; exact n_add (y := Int32.ofInt (1)) (by show _ ≤ _ + (1 : Int); omega) (by show _ + (1 : Int) ≤ _; omega)
          rw [← x22e]
          refine aw_step (f1 := (6, [some (.ref 65), some (.int g), some (.int t), some (.int le), some (.int x22), some (.int x20)], [])) (w1 := w) rfl rfl ?_
          have ce : (if g.toInt.toNat = i.toInt.toNat ∨ bt (rL w 74 g.toInt.toNat) i.toInt.toNat = 1 then wsT (rI w 86) (rL w 75 t.toInt.toNat) i.toInt.toNat t.toInt.toNat (szM w).toNat else 100000) = x20.toInt := by rw [if_pos (by omega)]; omega
          exact ih le x22 _ (by omega) (by omega) (by omega) (by rw [show x22.toInt.toNat = i.toInt.toNat + 1 by omega]; unfold bsN; omega)
        · --
          refine aw_step (f1 := (53, [some (.ref 65), some (.int g), some (.int t), some (.int le), some (.int i), some (.int x20)], [(.int x20)])) (w1 := w) rfl rfl ?_
          refine aw_step (f1 := (57, [some (.ref 65), some (.int g), some (.int t), some (.int le), some (.int i), some (.int x20)], [(.int x20)])) (w1 := w) rfl rfl ?_
          refine aw_step (f1 := (58, [some (.ref 65), some (.int g), some (.int t), some (.int x20), some (.int i), some (.int x20)], [])) (w1 := w) rfl rfl ?_
          refine aw_step (f1 := (61, [some (.ref 65), some (.int g), some (.int t), some (.int x20), some (.int (i + Int32.ofInt 1)), some (.int x20)], [])) (w1 := w) rfl rfl ?_
          obtain ⟨x23, x23e⟩ : ∃ z, z = (i + Int32.ofInt 1) := ⟨_, rfl⟩
          have x23t : x23.toInt = i.toInt + (1) := by rw [x23e]; exact n_add (y := Int32.ofInt (1)) (by show _ ≤ _ + (1 : Int); omega) (by show _ + (1 : Int) ≤ _; omega)
          rw [← x23e]
          refine aw_step (f1 := (6, [some (.ref 65), some (.int g), some (.int t), some (.int x20), some (.int x23), some (.int x20)], [])) (w1 := w) rfl rfl ?_
          have ce : (if g.toInt.toNat = i.toInt.toNat ∨ bt (rL w 74 g.toInt.toNat) i.toInt.toNat = 1 then wsT (rI w 86) (rL w 75 t.toInt.toNat) i.toInt.toNat t.toInt.toNat (szM w).toNat else 100000) = x20.toInt := by rw [if_pos (by omega)]; omega
          exact ih x20 x23 _ (by omega) (by omega) (by omega) (by rw [show x23.toInt.toNat = i.toInt.toNat + 1 by omega]; unfold bsN; omega)
theorem q_bestFrom {d : Nat} {w : am_W} (g t : Int32) (hg : 0 ≤ g.toInt ∧ g.toInt < 36) (ht : 0 ≤ t.toInt ∧ t.toInt < 36) (I : ab_inv ab_TT ab_sets w) : aw none (d + 3) 174 (fun r w1 => w = w1 ∧ ∃ z : Int32, r = some (.int z) ∧ z.toInt = bst (rI w 86) (rL w 74 g.toInt.toNat) (rL w 75 t.toInt.toNat) g.toInt.toNat t.toInt.toNat (szM w).toNat) (0, am_entry 174 [.ref 65, .int g, .int t], []) w := by
  have J : ab_J ab_TT ab_sets ab_WR w w := ⟨I, ab_fr.rf⟩
  have sz := szM_in I
  show aw none (d + 3) 174 _ (0, [some (.ref 65), some (.int g), some (.int t), none, none, none], []) w
  refine s_i (pc1 := 2) (ls1 := [some (.ref 65), some (.int g), some (.int t), none, none, none]) (st1 := []) rfl rfl fun x1 e2 => ?_
  have e2t : x1.toInt = 100000 := by rw [e2]; rfl
  refine aw_step (f1 := (3, [some (.ref 65), some (.int g), some (.int t), some (.int x1), none, none], [])) (w1 := w) rfl rfl ?_
  refine s_i (pc1 := 4) (ls1 := [some (.ref 65), some (.int g), some (.int t), some (.int x1), none, none]) (st1 := []) rfl rfl fun x3 e4 => ?_
  have e4t : x3.toInt = 0 := by rw [e4]; rfl
  refine aw_step (f1 := (6, [some (.ref 65), some (.int g), some (.int t), some (.int x1), some (.int x3), none], [])) (w1 := w) rfl rfl ?_
  exact q_bestFromL g t hg ht J 37 x1 x3 _ (by omega) (by omega) (by omega) (by rw [e2t, e4t]; rfl)
