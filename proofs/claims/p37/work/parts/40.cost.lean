/-! ===== costs: worn, time ===== -/
/-- the sum of the first n -/
noncomputable def sm (r : Nat → Int) : Nat → Int
  | 0 => 0
  | n + 1 => sm r n + r n
theorem sm_le {r r' : Nat → Int} : ∀ {n : Nat}, (∀ j, j < n → r' j ≤ r j) → sm r' n ≤ sm r n
  | 0, _ => Int.le_refl _
  | n + 1, h => by
    have h1 := sm_le (n := n) (fun j hj => h j (by omega))
    have h2 := h n (by omega)
    unfold sm
    omega
theorem sm_lt {r r' : Nat → Int} {k : Nat} (hk : r' k < r k) : ∀ {n : Nat}, (∀ j, j < n → r' j ≤ r j) → k < n → sm r' n < sm r n
  | 0, _, q => by omega
  | n + 1, h, q => by
    have h2 := h n (by omega)
    unfold sm
    by_cases e : k = n
    · subst e
      have h1 := sm_le (n := k) (fun j hj => h j (by omega))
      omega
    · have h1 := sm_lt hk (n := n) (fun j hj => h j (by omega)) (by omega)
      omega
theorem sm_0 {r : Nat → Int} : ∀ {n : Nat}, (∀ j, j < n → 0 ≤ r j) → 0 ≤ sm r n
  | 0, _ => Int.le_refl _
  | n + 1, h => by
    have h1 := sm_0 (n := n) (fun j hj => h j (by omega))
    have h2 := h n (by omega)
    unfold sm
    omega
noncomputable def sC (w : am_W) : Int := sm (rI w 78) 72
theorem sC_0 {w : am_W} (I : ab_inv ab_TT ab_sets w) : 0 ≤ sC w := sm_0 fun j hj => (rI_in I (p := 78) rfl hj).1
theorem only.sCe {ps : List Nat} {w w1 : am_W} (h : only ps w w1) (hp : 78 ∉ ps) : sC w1 = sC w := by
  have e : rI w1 78 = rI w 78 := by funext j; exact h.rIe hp
  show sm (rI w1 78) 72 = sm (rI w 78) 72
  rw [e]
noncomputable def chP (w w1 : am_W) (k : Nat) (is b : Int) : Prop := (b = 1 ∧ is < rI w 78 k ∧ rI w1 78 k = is ∧ ∀ j, j ≠ k → rI w1 78 j = rI w 78 j) ∨ (b = 0 ∧ rI w 78 k ≤ is ∧ ∀ j, rI w1 78 j = rI w 78 j)
theorem chP.s {w w1 : am_W} {k : Nat} {is b : Int} (h : chP w w1 k is b) (hk : k < 72) : (b = 1 ∧ sC w1 < sC w) ∨ (b = 0 ∧ sC w1 ≤ sC w) := by
  rcases h with ⟨h1, h2, h3, h4⟩ | ⟨h1, h2, h3⟩
  · refine Or.inl ⟨h1, sm_lt (k := k) (by omega) (fun j hj => ?_) hk⟩
    by_cases e : j = k
    · subst e; omega
    · rw [h4 j e]; exact Int.le_refl _
  · exact Or.inr ⟨h1, sm_le fun j _ => by rw [h3 j]; exact Int.le_refl _⟩
theorem q_wearOf {d : Nat} {w : am_W} (s : Int32) : aw none d 135 (fun r w1 => w = w1 ∧ ∃ b : Int32, r = some (.int b) ∧ ((b.toInt = 2 ∧ s.toInt = 94) ∨ (b.toInt = 1 ∧ s.toInt ≠ 94))) (0, am_entry 135 [.int s], []) w := by
  show aw none d 135 _ (0, [some (.int s)], []) w
  refine aw_step (f1 := (1, [some (.int s)], [(.int s)])) (w1 := w) rfl rfl ?_
  refine s_i (pc1 := 3) (ls1 := [some (.int s)]) (st1 := [(.int s)]) rfl rfl fun x1 e2 => ?_
  have e2t : x1.toInt = 94 := by rw [e2]; rfl
  refine s_ic 10 6 rfl rfl rfl (fun (h3 : ¬ s.toInt = x1.toInt) => ?_) (fun (h3 : ¬ (¬ s.toInt = x1.toInt)) => ?_)
  · --
    refine s_i (pc1 := 11) (ls1 := [some (.int s)]) (st1 := []) rfl rfl fun x4 e5 => ?_
    have e5t : x4.toInt = 1 := by rw [e5]; rfl
    refine aw_ret (v := some (.int x4)) rfl rfl ?_
    exact ⟨rfl, x4, rfl, by omega⟩
  · --
    refine s_i (pc1 := 7) (ls1 := [some (.int s)]) (st1 := []) rfl rfl fun x6 e7 => ?_
    have e7t : x6.toInt = 2 := by rw [e7]; rfl
    refine aw_step (f1 := (11, [some (.int s)], [(.int x6)])) (w1 := w) rfl rfl ?_
    refine aw_ret (v := some (.int x6)) rfl rfl ?_
    exact ⟨rfl, x6, rfl, by omega⟩
theorem q_cheapen {d : Nat} {w : am_W} (k is : Int32) (hk : 0 ≤ k.toInt ∧ k.toInt < 72) (h0 : 0 ≤ is.toInt) (I : ab_inv ab_TT ab_sets w) : aw none d 147 (fun r w1 => ∃ b : Int32, r = some (.int b) ∧ ab_J ab_TT ab_sets ab_WR w w1 ∧ only [78] w w1 ∧ chP w w1 k.toInt.toNat is.toInt b.toInt) (0, am_entry 147 [.ref 65, .int k, .int is], []) w := by
  have J : ab_J ab_TT ab_sets ab_WR w w := ⟨I, ab_fr.rf⟩
  show aw none d 147 _ (0, [some (.ref 65), some (.int k), some (.int is), none], []) w
  refine aw_step (f1 := (1, [some (.ref 65), some (.int k), some (.int is), none], [(.int is)])) (w1 := w) rfl rfl ?_
  refine aw_step (f1 := (2, [some (.ref 65), some (.int k), some (.int is), none], [(.ref 65), (.int is)])) (w1 := w) rfl rfl ?_
  refine s_gr 78 J 5 rfl rfl rfl rfl rfl rfl ?_
  refine aw_step (f1 := (6, [some (.ref 65), some (.int k), some (.int is), none], [(.int k), (.ref 78), (.int is)])) (w1 := w) rfl rfl ?_
  refine s_ia J 7 rfl rfl rfl rfl (by omega) (by omega) fun x1 x1a x1b x1f => ?_
  have hr := rI_of x1f
  refine s_ic 14 10 rfl rfl rfl (fun (h2 : x1.toInt ≤ is.toInt) => ?_) (fun (h2 : ¬ (x1.toInt ≤ is.toInt)) => ?_)
  · --
    refine s_i (pc1 := 15) (ls1 := [some (.ref 65), some (.int k), some (.int is), none]) (st1 := []) rfl rfl fun x3 e4 => ?_
    have e4t : x3.toInt = 0 := by rw [e4]; rfl
    refine aw_step (f1 := (16, [some (.ref 65), some (.int k), some (.int is), some (.int x3)], [])) (w1 := w) rfl rfl ?_
    refine aw_step (f1 := (17, [some (.ref 65), some (.int k), some (.int is), some (.int x3)], [(.ref 65)])) (w1 := w) rfl rfl ?_
    refine s_gr 78 J 20 rfl rfl rfl rfl rfl rfl ?_
    refine aw_step (f1 := (21, [some (.ref 65), some (.int k), some (.int is), some (.int x3)], [(.int k), (.ref 78)])) (w1 := w) rfl rfl ?_
    refine aw_step (f1 := (22, [some (.ref 65), some (.int k), some (.int is), some (.int x3)], [(.int x3), (.int k), (.ref 78)])) (w1 := w) rfl rfl ?_
    refine s_if 29 25 rfl rfl rfl (fun (h5 : x3.toInt = 0) => ?_) (fun (h5 : ¬ (x3.toInt = 0)) => ?_)
    · --
      refine aw_step (f1 := (30, [some (.ref 65), some (.int k), some (.int is), some (.int x3)], [(.ref 65), (.int k), (.ref 78)])) (w1 := w) rfl rfl ?_
      refine s_gr 78 J 33 rfl rfl rfl rfl rfl rfl ?_
      refine aw_step (f1 := (34, [some (.ref 65), some (.int k), some (.int is), some (.int x3)], [(.int k), (.ref 78), (.int k), (.ref 78)])) (w1 := w) rfl rfl ?_
      refine s_ia J 35 rfl rfl rfl rfl (by omega) (by omega) fun x6 x6a x6b x6f => ?_
      --
      refine s_is J 36 rfl rfl rfl rfl (by omega) (by omega) (by omega) (by omega) fun w7 J8 w7e => ?_
      refine aw_step (f1 := (37, [some (.ref 65), some (.int k), some (.int is), some (.int x3)], [(.int x3)])) (w1 := w7) rfl rfl ?_
      refine aw_ret (v := some (.int x3)) rfl (am_retz (by omega)) ?_
      have so := rI_st J.1 (p := 78) (j := k.toInt.toNat) rfl (by omega) w7e
      have hr2 := rI_of x6f
      exact ⟨x3, rfl, J8, so.1, Or.inr ⟨by omega, by omega, fun j => by
        by_cases e : j = k.toInt.toNat
        · rw [e, so.2.1]; omega
        · exact so.2.2 j e⟩⟩
    · --
      refine aw_step (f1 := (26, [some (.ref 65), some (.int k), some (.int is), some (.int x3)], [(.int is), (.int k), (.ref 78)])) (w1 := w) rfl rfl ?_
      refine aw_step (f1 := (35, [some (.ref 65), some (.int k), some (.int is), some (.int x3)], [(.int is), (.int k), (.ref 78)])) (w1 := w) rfl rfl ?_
      --
      refine s_is J 36 rfl rfl rfl rfl (by omega) (by omega) (by omega) (by omega) fun w9 J10 w9e => ?_
      refine aw_step (f1 := (37, [some (.ref 65), some (.int k), some (.int is), some (.int x3)], [(.int x3)])) (w1 := w9) rfl rfl ?_
      refine aw_ret (v := some (.int x3)) rfl (am_retz (by omega)) ?_
      have so := rI_st J.1 (p := 78) (j := k.toInt.toNat) rfl (by omega) w9e
      exact ⟨x3, rfl, J10, so.1, Or.inl ⟨by omega, by omega, so.2.1, so.2.2⟩⟩
  · --
    refine s_i (pc1 := 11) (ls1 := [some (.ref 65), some (.int k), some (.int is), none]) (st1 := []) rfl rfl fun x11 e12 => ?_
    have e12t : x11.toInt = 1 := by rw [e12]; rfl
    refine aw_step (f1 := (15, [some (.ref 65), some (.int k), some (.int is), none], [(.int x11)])) (w1 := w) rfl rfl ?_
    refine aw_step (f1 := (16, [some (.ref 65), some (.int k), some (.int is), some (.int x11)], [])) (w1 := w) rfl rfl ?_
    refine aw_step (f1 := (17, [some (.ref 65), some (.int k), some (.int is), some (.int x11)], [(.ref 65)])) (w1 := w) rfl rfl ?_
    refine s_gr 78 J 20 rfl rfl rfl rfl rfl rfl ?_
    refine aw_step (f1 := (21, [some (.ref 65), some (.int k), some (.int is), some (.int x11)], [(.int k), (.ref 78)])) (w1 := w) rfl rfl ?_
    refine aw_step (f1 := (22, [some (.ref 65), some (.int k), some (.int is), some (.int x11)], [(.int x11), (.int k), (.ref 78)])) (w1 := w) rfl rfl ?_
    refine s_if 29 25 rfl rfl rfl (fun (h13 : x11.toInt = 0) => ?_) (fun (h13 : ¬ (x11.toInt = 0)) => ?_)
    · --
      refine aw_step (f1 := (30, [some (.ref 65), some (.int k), some (.int is), some (.int x11)], [(.ref 65), (.int k), (.ref 78)])) (w1 := w) rfl rfl ?_
      refine s_gr 78 J 33 rfl rfl rfl rfl rfl rfl ?_
      refine aw_step (f1 := (34, [some (.ref 65), some (.int k), some (.int is), some (.int x11)], [(.int k), (.ref 78), (.int k), (.ref 78)])) (w1 := w) rfl rfl ?_
      refine s_ia J 35 rfl rfl rfl rfl (by omega) (by omega) fun x14 x14a x14b x14f => ?_
      --
      refine s_is J 36 rfl rfl rfl rfl (by omega) (by omega) (by omega) (by omega) fun w15 J16 w15e => ?_
      refine aw_step (f1 := (37, [some (.ref 65), some (.int k), some (.int is), some (.int x11)], [(.int x11)])) (w1 := w15) rfl rfl ?_
      refine aw_ret (v := some (.int x11)) rfl (am_retz (by omega)) ?_
      have so := rI_st J.1 (p := 78) (j := k.toInt.toNat) rfl (by omega) w15e
      have hr2 := rI_of x14f
      exact ⟨x11, rfl, J16, so.1, Or.inr ⟨by omega, by omega, fun j => by
        by_cases e : j = k.toInt.toNat
        · rw [e, so.2.1]; omega
        · exact so.2.2 j e⟩⟩
    · --
      refine aw_step (f1 := (26, [some (.ref 65), some (.int k), some (.int is), some (.int x11)], [(.int is), (.int k), (.ref 78)])) (w1 := w) rfl rfl ?_
      refine aw_step (f1 := (35, [some (.ref 65), some (.int k), some (.int is), some (.int x11)], [(.int is), (.int k), (.ref 78)])) (w1 := w) rfl rfl ?_
      --
      refine s_is J 36 rfl rfl rfl rfl (by omega) (by omega) (by omega) (by omega) fun w17 J18 w17e => ?_
      refine aw_step (f1 := (37, [some (.ref 65), some (.int k), some (.int is), some (.int x11)], [(.int x11)])) (w1 := w17) rfl rfl ?_
      refine aw_ret (v := some (.int x11)) rfl (am_retz (by omega)) ?_
      have so := rI_st J.1 (p := 78) (j := k.toInt.toNat) rfl (by omega) w17e
      exact ⟨x11, rfl, J18, so.1, Or.inl ⟨by omega, by omega, so.2.1, so.2.2⟩⟩
theorem q_beginCostsL {d : Nat} {wb : am_W} (f : Int32) (hf : 0 ≤ f.toInt ∧ f.toInt < 36) : ∀ (m : Nat) (w : am_W) (i : Int32), (72 - i.toInt).toNat < m → 0 ≤ i.toInt → i.toInt ≤ 72 → ab_J ab_TT ab_sets ab_WR wb w → only [78] wb w → (∀ j : Nat, (j : Int) < i.toInt → rI w 78 j = 100000) → aw none d 146 (fun r w1 => r = none ∧ ab_J ab_TT ab_sets ab_WR wb w1 ∧ only [78] wb w1 ∧ rI w1 78 f.toInt.toNat = 0 ∧ ∀ j : Nat, j < 72 → j ≠ f.toInt.toNat → rI w1 78 j = 100000) (2, [some (.ref 65), some (.int f), some (.int i)], []) w := by
  intro m
  induction m with
  | zero => intro w i p; omega
  | succ m ih =>
    intro w i p1 p2 p3 J O F
    refine aw_step (f1 := (3, [some (.ref 65), some (.int f), some (.int i)], [(.int i)])) (w1 := w) rfl rfl ?_
    refine s_i (pc1 := 5) (ls1 := [some (.ref 65), some (.int f), some (.int i)]) (st1 := [(.int i)]) rfl rfl fun x1 e2 => ?_
    have e2t : x1.toInt = 72 := by rw [e2]; rfl
    refine s_ic 22 8 rfl rfl rfl (fun (h3 : x1.toInt ≤ i.toInt) => ?_) (fun (h3 : ¬ (x1.toInt ≤ i.toInt)) => ?_)
    · --
      refine aw_step (f1 := (23, [some (.ref 65), some (.int f), some (.int i)], [(.ref 65)])) (w1 := w) rfl rfl ?_
      refine s_gr 78 J 26 rfl rfl rfl rfl rfl rfl ?_
      refine aw_step (f1 := (27, [some (.ref 65), some (.int f), some (.int i)], [(.int f), (.ref 78)])) (w1 := w) rfl rfl ?_
      refine s_i (pc1 := 28) (ls1 := [some (.ref 65), some (.int f), some (.int i)]) (st1 := [(.int f), (.ref 78)]) rfl rfl fun x4 e5 => ?_
      have e5t : x4.toInt = 0 := by rw [e5]; rfl
      refine s_is J 29 rfl rfl rfl rfl (by omega) (by omega) (by omega) (by omega) fun w6 J7 w6e => ?_
      refine aw_ret (v := none) rfl rfl ?_
      have so := rI_st J.1 (p := 78) (j := f.toInt.toNat) rfl (by omega) w6e
      exact ⟨rfl, J7, O.trans so.1, by rw [so.2.1]; omega, fun j hj e => by rw [so.2.2 j e]; exact F j (by omega)⟩
    · --
      refine aw_step (f1 := (9, [some (.ref 65), some (.int f), some (.int i)], [(.ref 65)])) (w1 := w) rfl rfl ?_
      refine s_gr 78 J 12 rfl rfl rfl rfl rfl rfl ?_
      refine aw_step (f1 := (13, [some (.ref 65), some (.int f), some (.int i)], [(.int i), (.ref 78)])) (w1 := w) rfl rfl ?_
      refine s_i (pc1 := 15) (ls1 := [some (.ref 65), some (.int f), some (.int i)]) (st1 := [(.int i), (.ref 78)]) rfl rfl fun x8 e9 => ?_
      have e9t : x8.toInt = 100000 := by rw [e9]; rfl
      refine s_is J 16 rfl rfl rfl rfl (by omega) (by omega) (by omega) (by omega) fun w10 J11 w10e => ?_
      refine aw_step (f1 := (19, [some (.ref 65), some (.int f), some (.int (i + Int32.ofInt 1))], [])) (w1 := w10) rfl rfl ?_
      obtain ⟨x12, x12e⟩ : ∃ z, z = (i + Int32.ofInt 1) := ⟨_, rfl⟩
      have x12t : x12.toInt = i.toInt + (1) := by rw [x12e]; exact n_add (y := Int32.ofInt (1)) (by show _ ≤ _ + (1 : Int); omega) (by show _ + (1 : Int) ≤ _; omega)
      rw [← x12e]
      refine aw_step (f1 := (2, [some (.ref 65), some (.int f), some (.int x12)], [])) (w1 := w10) rfl rfl ?_
      have so := rI_st J.1 (p := 78) (j := i.toInt.toNat) rfl (by omega) w10e
      exact ih w10 x12 (by omega) (by omega) (by omega) J11 (O.trans so.1) (fun j hj => by
        by_cases e : j = i.toInt.toNat
        · rw [e, so.2.1]; omega
        · rw [so.2.2 j e]; exact F j (by omega))
theorem q_beginCosts {d : Nat} {w : am_W} (f : Int32) (hf : 0 ≤ f.toInt ∧ f.toInt < 36) (I : ab_inv ab_TT ab_sets w) : aw none d 146 (fun r w1 => r = none ∧ ab_J ab_TT ab_sets ab_WR w w1 ∧ only [78] w w1 ∧ rI w1 78 f.toInt.toNat = 0 ∧ ∀ j : Nat, j < 72 → j ≠ f.toInt.toNat → rI w1 78 j = 100000) (0, am_entry 146 [.ref 65, .int f], []) w := by
  have J : ab_J ab_TT ab_sets ab_WR w w := ⟨I, ab_fr.rf⟩
  show aw none d 146 _ (0, [some (.ref 65), some (.int f), none], []) w
  refine s_i (pc1 := 1) (ls1 := [some (.ref 65), some (.int f), none]) (st1 := []) rfl rfl fun x1 e2 => ?_
  have e2t : x1.toInt = 0 := by rw [e2]; rfl
  refine aw_step (f1 := (2, [some (.ref 65), some (.int f), some (.int x1)], [])) (w1 := w) rfl rfl ?_
  exact q_beginCostsL f hf 73 w x1 (by omega) (by omega) (by omega) J only.rf (fun j hj => by omega)
theorem q_wornI {d : Nat} {Q : Option Value → am_W → Prop} {w00 : am_W} {z s0 : Int} (bo f t c : Int32) (hc : 0 ≤ c.toInt ∧ c.toInt < z) (K : ∀ (w : am_W) (more dd : Int32) (o7 : Option Value), ab_J ab_TT ab_sets ab_WR w00 w → szM w = z → ((more.toInt = 1 ∧ sC w < s0) ∨ (more.toInt = 0 ∧ sC w ≤ s0)) → aw none (d + 3) 148 Q (141, [some (.ref 65), some (.int bo), some (.int f), some (.int t), some (.int more), some (.int c), some (.int dd), o7], []) w) : ∀ (m : Nat) (w : am_W) (more dd : Int32) (o7 : Option Value), (z - dd.toInt).toNat < m → 0 ≤ dd.toInt → dd.toInt ≤ z → ab_J ab_TT ab_sets ab_WR w00 w → szM w = z → ((more.toInt = 1 ∧ sC w < s0) ∨ (more.toInt = 0 ∧ sC w ≤ s0)) → aw none (d + 3) 148 Q (48, [some (.ref 65), some (.int bo), some (.int f), some (.int t), some (.int more), some (.int c), some (.int dd), o7], []) w := by
  intro m
  induction m with
  | zero => intro w more dd o7 p; omega
  | succ m ih =>
    intro w more dd o7 p1 p2 p3 J zz R
    have sz := szM_in J.1
    refine aw_step (f1 := (50, [some (.ref 65), some (.int bo), some (.int f), some (.int t), some (.int more), some (.int c), some (.int dd), o7], [(.int dd)])) (w1 := w) rfl rfl ?_
    refine aw_step (f1 := (51, [some (.ref 65), some (.int bo), some (.int f), some (.int t), some (.int more), some (.int c), some (.int dd), o7], [(.ref 65), (.int dd)])) (w1 := w) rfl rfl ?_
    refine s_cv (z := 113) (p := 65) (as := []) (st1 := [(.int dd)]) J 54 rfl rfl rfl rfl rfl rfl rfl rfl (Nat.le_of_ble_eq_true rfl) (Nat.le_of_ble_eq_true rfl) (q_cells J.1) ?_
    rintro _ _ ⟨rfl, x1, rfl, x1t⟩
    refine ⟨rfl, ?_⟩
    show aw none _ 148 _ (54, [some (.ref 65), some (.int bo), some (.int f), some (.int t), some (.int more), some (.int c), some (.int dd), o7], [(.int x1), (.int dd)]) w
    have x1s := szM_in J.1
    refine s_ic 141 57 rfl rfl rfl (fun (h2 : x1.toInt ≤ dd.toInt) => ?_) (fun (h2 : ¬ (x1.toInt ≤ dd.toInt)) => ?_)
    · --
      exact K w more dd _ J zz R
    · --
      refine aw_step (f1 := (58, [some (.ref 65), some (.int bo), some (.int f), some (.int t), some (.int more), some (.int c), some (.int dd), o7], [(.ref 65)])) (w1 := w) rfl rfl ?_
      refine s_gr 78 J 61 rfl rfl rfl rfl rfl rfl ?_
      refine aw_step (f1 := (63, [some (.ref 65), some (.int bo), some (.int f), some (.int t), some (.int more), some (.int c), some (.int dd), o7], [(.int c), (.ref 78)])) (w1 := w) rfl rfl ?_
      refine s_ia J 64 rfl rfl rfl rfl (by omega) (by omega) fun x3 x3a x3b x3f => ?_
      refine s_i (pc1 := 66) (ls1 := [some (.ref 65), some (.int bo), some (.int f), some (.int t), some (.int more), some (.int c), some (.int dd), o7]) (st1 := [(.int x3)]) rfl rfl fun x4 e5 => ?_
      have e5t : x4.toInt = 100000 := by rw [e5]; rfl
      refine s_ic 141 69 rfl rfl rfl (fun (h6 : x4.toInt ≤ x3.toInt) => ?_) (fun (h6 : ¬ (x4.toInt ≤ x3.toInt)) => ?_)
      · --
        exact K w more dd _ J zz R
      · --
        refine aw_step (f1 := (70, [some (.ref 65), some (.int bo), some (.int f), some (.int t), some (.int more), some (.int c), some (.int dd), o7], [(.ref 65)])) (w1 := w) rfl rfl ?_
        refine s_gr 74 J 73 rfl rfl rfl rfl rfl rfl ?_
        refine aw_step (f1 := (75, [some (.ref 65), some (.int bo), some (.int f), some (.int t), some (.int more), some (.int c), some (.int dd), o7], [(.int c), (.ref 74)])) (w1 := w) rfl rfl ?_
        refine s_la J 76 rfl rfl rfl (by omega) (by omega) fun y7 y7a y7b y7f => ?_
        refine aw_step (f1 := (78, [some (.ref 65), some (.int bo), some (.int f), some (.int t), some (.int more), some (.int c), some (.int dd), o7], [(.int dd), (.long y7)])) (w1 := w) rfl rfl ?_
        refine s_cs (z := 110) (as := [(.long y7), (.int dd)]) (st1 := []) 81 rfl rfl rfl rfl rfl rfl (Nat.le_of_ble_eq_true rfl) (Nat.le_of_ble_eq_true rfl) (Nat.le_of_ble_eq_true rfl) (q_has y7 dd (by omega) (by omega)) ?_
        rintro _ _ ⟨rfl, x8, rfl, x8t⟩
        refine ⟨rfl, ?_⟩
        show aw none _ 148 _ (81, [some (.ref 65), some (.int bo), some (.int f), some (.int t), some (.int more), some (.int c), some (.int dd), o7], [(.int x8)]) w
        have x8l := bt_le (n64 y7) dd.toInt.toNat
        refine s_if 115 84 rfl rfl rfl (fun (h9 : x8.toInt = 0) => ?_) (fun (h9 : ¬ (x8.toInt = 0)) => ?_)
        · --
          refine s_i (pc1 := 116) (ls1 := [some (.ref 65), some (.int bo), some (.int f), some (.int t), some (.int more), some (.int c), some (.int dd), o7]) (st1 := []) rfl rfl fun x10 e11 => ?_
          have e11t : x10.toInt = 0 := by rw [e11]; rfl
          refine aw_step (f1 := (118, [some (.ref 65), some (.int bo), some (.int f), some (.int t), some (.int more), some (.int c), some (.int dd), some (.int x10)], [])) (w1 := w) rfl rfl ?_
          refine aw_step (f1 := (120, [some (.ref 65), some (.int bo), some (.int f), some (.int t), some (.int more), some (.int c), some (.int dd), some (.int x10)], [(.int more)])) (w1 := w) rfl rfl ?_
          refine s_if 128 123 rfl rfl rfl (fun (h12 : ¬ more.toInt = 0) => ?_) (fun (h12 : ¬ (¬ more.toInt = 0)) => ?_)
          · --
            refine s_i (pc1 := 129) (ls1 := [some (.ref 65), some (.int bo), some (.int f), some (.int t), some (.int more), some (.int c), some (.int dd), some (.int x10)]) (st1 := []) rfl rfl fun x13 e14 => ?_
            have e14t : x13.toInt = 1 := by rw [e14]; rfl
            refine aw_step (f1 := (133, [some (.ref 65), some (.int bo), some (.int f), some (.int t), some (.int more), some (.int c), some (.int dd), some (.int x10)], [(.int x13)])) (w1 := w) rfl rfl ?_
            refine aw_step (f1 := (135, [some (.ref 65), some (.int bo), some (.int f), some (.int t), some (.int x13), some (.int c), some (.int dd), some (.int x10)], [])) (w1 := w) rfl rfl ?_
            refine aw_step (f1 := (138, [some (.ref 65), some (.int bo), some (.int f), some (.int t), some (.int x13), some (.int c), some (.int (dd + Int32.ofInt 1)), some (.int x10)], [])) (w1 := w) rfl rfl ?_
            obtain ⟨x15, x15e⟩ : ∃ z, z = (dd + Int32.ofInt 1) := ⟨_, rfl⟩
            have x15t : x15.toInt = dd.toInt + (1) := by rw [x15e]; exact n_add (y := Int32.ofInt (1)) (by show _ ≤ _ + (1 : Int); omega) (by show _ + (1 : Int) ≤ _; omega)
            rw [← x15e]
            refine aw_step (f1 := (48, [some (.ref 65), some (.int bo), some (.int f), some (.int t), some (.int x13), some (.int c), some (.int x15), some (.int x10)], [])) (w1 := w) rfl rfl ?_
            exact ih w x13 x15 _ (by omega) (by omega) (by omega) J (by omega) (by omega)
          · --
            refine aw_step (f1 := (125, [some (.ref 65), some (.int bo), some (.int f), some (.int t), some (.int more), some (.int c), some (.int dd), some (.int x10)], [(.int x10)])) (w1 := w) rfl rfl ?_
            refine s_if 132 128 rfl rfl rfl (fun (h16 : x10.toInt = 0) => ?_) (fun (h16 : ¬ (x10.toInt = 0)) => ?_)
            · --
              refine s_i (pc1 := 133) (ls1 := [some (.ref 65), some (.int bo), some (.int f), some (.int t), some (.int more), some (.int c), some (.int dd), some (.int x10)]) (st1 := []) rfl rfl fun x17 e18 => ?_
              have e18t : x17.toInt = 0 := by rw [e18]; rfl
              refine aw_step (f1 := (135, [some (.ref 65), some (.int bo), some (.int f), some (.int t), some (.int x17), some (.int c), some (.int dd), some (.int x10)], [])) (w1 := w) rfl rfl ?_
              refine aw_step (f1 := (138, [some (.ref 65), some (.int bo), some (.int f), some (.int t), some (.int x17), some (.int c), some (.int (dd + Int32.ofInt 1)), some (.int x10)], [])) (w1 := w) rfl rfl ?_
              obtain ⟨x19, x19e⟩ : ∃ z, z = (dd + Int32.ofInt 1) := ⟨_, rfl⟩
              have x19t : x19.toInt = dd.toInt + (1) := by rw [x19e]; exact n_add (y := Int32.ofInt (1)) (by show _ ≤ _ + (1 : Int); omega) (by show _ + (1 : Int) ≤ _; omega)
              rw [← x19e]
              refine aw_step (f1 := (48, [some (.ref 65), some (.int bo), some (.int f), some (.int t), some (.int x17), some (.int c), some (.int x19), some (.int x10)], [])) (w1 := w) rfl rfl ?_
              exact ih w x17 x19 _ (by omega) (by omega) (by omega) J (by omega) (by omega)
            · --
              refine s_i (pc1 := 129) (ls1 := [some (.ref 65), some (.int bo), some (.int f), some (.int t), some (.int more), some (.int c), some (.int dd), some (.int x10)]) (st1 := []) rfl rfl fun x20 e21 => ?_
              have e21t : x20.toInt = 1 := by rw [e21]; rfl
              refine aw_step (f1 := (133, [some (.ref 65), some (.int bo), some (.int f), some (.int t), some (.int more), some (.int c), some (.int dd), some (.int x10)], [(.int x20)])) (w1 := w) rfl rfl ?_
              refine aw_step (f1 := (135, [some (.ref 65), some (.int bo), some (.int f), some (.int t), some (.int x20), some (.int c), some (.int dd), some (.int x10)], [])) (w1 := w) rfl rfl ?_
              refine aw_step (f1 := (138, [some (.ref 65), some (.int bo), some (.int f), some (.int t), some (.int x20), some (.int c), some (.int (dd + Int32.ofInt 1)), some (.int x10)], [])) (w1 := w) rfl rfl ?_
              obtain ⟨x22, x22e⟩ : ∃ z, z = (dd + Int32.ofInt 1) := ⟨_, rfl⟩
              have x22t : x22.toInt = dd.toInt + (1) := by rw [x22e]; exact n_add (y := Int32.ofInt (1)) (by show _ ≤ _ + (1 : Int); omega) (by show _ + (1 : Int) ≤ _; omega)
              rw [← x22e]
              refine aw_step (f1 := (48, [some (.ref 65), some (.int bo), some (.int f), some (.int t), some (.int x20), some (.int c), some (.int x22), some (.int x10)], [])) (w1 := w) rfl rfl ?_
              exact ih w x20 x22 _ (by omega) (by omega) (by omega) J (by omega) (by omega)
        · --
          refine aw_step (f1 := (85, [some (.ref 65), some (.int bo), some (.int f), some (.int t), some (.int more), some (.int c), some (.int dd), o7], [(.ref 65)])) (w1 := w) rfl rfl ?_
          refine aw_step (f1 := (87, [some (.ref 65), some (.int bo), some (.int f), some (.int t), some (.int more), some (.int c), some (.int dd), o7], [(.int dd), (.ref 65)])) (w1 := w) rfl rfl ?_
          refine aw_step (f1 := (88, [some (.ref 65), some (.int bo), some (.int f), some (.int t), some (.int more), some (.int c), some (.int dd), o7], [(.ref 65), (.int dd), (.ref 65)])) (w1 := w) rfl rfl ?_
          refine s_gr 78 J 91 rfl rfl rfl rfl rfl rfl ?_
          refine aw_step (f1 := (93, [some (.ref 65), some (.int bo), some (.int f), some (.int t), some (.int more), some (.int c), some (.int dd), o7], [(.int c), (.ref 78), (.int dd), (.ref 65)])) (w1 := w) rfl rfl ?_
          refine s_ia J 94 rfl rfl rfl rfl (by omega) (by omega) fun x23 x23a x23b x23f => ?_
          refine aw_step (f1 := (95, [some (.ref 65), some (.int bo), some (.int f), some (.int t), some (.int more), some (.int c), some (.int dd), o7], [(.ref 65), (.int x23), (.int dd), (.ref 65)])) (w1 := w) rfl rfl ?_
          refine s_gr 66 J 98 rfl rfl rfl rfl rfl rfl ?_
          refine aw_step (f1 := (100, [some (.ref 65), some (.int bo), some (.int f), some (.int t), some (.int more), some (.int c), some (.int dd), o7], [(.int dd), (.ref 66), (.int x23), (.int dd), (.ref 65)])) (w1 := w) rfl rfl ?_
          refine s_ia J 101 rfl rfl rfl rfl (by omega) (by omega) fun x24 x24a x24b x24f => ?_
          refine s_cs (z := 135) (as := [(.int x24)]) (st1 := [(.int x23), (.int dd), (.ref 65)]) 104 rfl rfl rfl rfl rfl rfl (Nat.le_of_ble_eq_true rfl) (Nat.le_of_ble_eq_true rfl) (Nat.le_of_ble_eq_true rfl) (q_wearOf x24) ?_
          rintro _ _ ⟨rfl, x25, rfl, x25t⟩
          refine ⟨rfl, ?_⟩
          show aw none _ 148 _ (104, [some (.ref 65), some (.int bo), some (.int f), some (.int t), some (.int more), some (.int c), some (.int dd), o7], [(.int x25), (.int x23), (.int dd), (.ref 65)]) w
          refine s_i (pc1 := 105) (ls1 := [some (.ref 65), some (.int bo), some (.int f), some (.int t), some (.int more), some (.int c), some (.int dd), o7]) (st1 := [(.int dd), (.ref 65)]) rfl rfl fun x26 e27 => ?_
          have e27 : x26 = x23 + x25 := e27
          have e27t : x26.toInt = x23.toInt + x25.toInt := by rw [e27]; exact n_add (by omega) (by omega)
          refine s_cv (z := 147) (p := 65) (as := [(.int dd), (.int x26)]) (st1 := []) J 108 rfl rfl rfl rfl rfl rfl rfl rfl (Nat.le_of_ble_eq_true rfl) (Nat.le_of_ble_eq_true rfl) (q_cheapen dd x26 ⟨by omega, by omega⟩ (by omega) J.1) ?_
          rintro _ w29 ⟨x28, rfl, J30c, w29o, w29p⟩
          have J30 := J.trans J30c
          refine ⟨am_len2 J J30c, ?_⟩
          show aw none _ 148 _ (108, [some (.ref 65), some (.int bo), some (.int f), some (.int t), some (.int more), some (.int c), some (.int dd), o7], [(.int x28)]) w29
          have w29s := w29p.s (by omega)
          have w29z := w29o.sz (by decide)
          refine s_if 115 111 rfl rfl rfl (fun (h31 : x28.toInt = 0) => ?_) (fun (h31 : ¬ (x28.toInt = 0)) => ?_)
          · --
            refine s_i (pc1 := 116) (ls1 := [some (.ref 65), some (.int bo), some (.int f), some (.int t), some (.int more), some (.int c), some (.int dd), o7]) (st1 := []) rfl rfl fun x32 e33 => ?_
            have e33t : x32.toInt = 0 := by rw [e33]; rfl
            refine aw_step (f1 := (118, [some (.ref 65), some (.int bo), some (.int f), some (.int t), some (.int more), some (.int c), some (.int dd), some (.int x32)], [])) (w1 := w29) rfl rfl ?_
            refine aw_step (f1 := (120, [some (.ref 65), some (.int bo), some (.int f), some (.int t), some (.int more), some (.int c), some (.int dd), some (.int x32)], [(.int more)])) (w1 := w29) rfl rfl ?_
            refine s_if 128 123 rfl rfl rfl (fun (h34 : ¬ more.toInt = 0) => ?_) (fun (h34 : ¬ (¬ more.toInt = 0)) => ?_)
            · --
              refine s_i (pc1 := 129) (ls1 := [some (.ref 65), some (.int bo), some (.int f), some (.int t), some (.int more), some (.int c), some (.int dd), some (.int x32)]) (st1 := []) rfl rfl fun x35 e36 => ?_
              have e36t : x35.toInt = 1 := by rw [e36]; rfl
              refine aw_step (f1 := (133, [some (.ref 65), some (.int bo), some (.int f), some (.int t), some (.int more), some (.int c), some (.int dd), some (.int x32)], [(.int x35)])) (w1 := w29) rfl rfl ?_
              refine aw_step (f1 := (135, [some (.ref 65), some (.int bo), some (.int f), some (.int t), some (.int x35), some (.int c), some (.int dd), some (.int x32)], [])) (w1 := w29) rfl rfl ?_
              refine aw_step (f1 := (138, [some (.ref 65), some (.int bo), some (.int f), some (.int t), some (.int x35), some (.int c), some (.int (dd + Int32.ofInt 1)), some (.int x32)], [])) (w1 := w29) rfl rfl ?_
              obtain ⟨x37, x37e⟩ : ∃ z, z = (dd + Int32.ofInt 1) := ⟨_, rfl⟩
              have x37t : x37.toInt = dd.toInt + (1) := by rw [x37e]; exact n_add (y := Int32.ofInt (1)) (by show _ ≤ _ + (1 : Int); omega) (by show _ + (1 : Int) ≤ _; omega)
              rw [← x37e]
              refine aw_step (f1 := (48, [some (.ref 65), some (.int bo), some (.int f), some (.int t), some (.int x35), some (.int c), some (.int x37), some (.int x32)], [])) (w1 := w29) rfl rfl ?_
              exact ih w29 x35 x37 _ (by omega) (by omega) (by omega) J30 (by omega) (by omega)
            · --
              refine aw_step (f1 := (125, [some (.ref 65), some (.int bo), some (.int f), some (.int t), some (.int more), some (.int c), some (.int dd), some (.int x32)], [(.int x32)])) (w1 := w29) rfl rfl ?_
              refine s_if 132 128 rfl rfl rfl (fun (h38 : x32.toInt = 0) => ?_) (fun (h38 : ¬ (x32.toInt = 0)) => ?_)
              · --
                refine s_i (pc1 := 133) (ls1 := [some (.ref 65), some (.int bo), some (.int f), some (.int t), some (.int more), some (.int c), some (.int dd), some (.int x32)]) (st1 := []) rfl rfl fun x39 e40 => ?_
                have e40t : x39.toInt = 0 := by rw [e40]; rfl
                refine aw_step (f1 := (135, [some (.ref 65), some (.int bo), some (.int f), some (.int t), some (.int x39), some (.int c), some (.int dd), some (.int x32)], [])) (w1 := w29) rfl rfl ?_
                refine aw_step (f1 := (138, [some (.ref 65), some (.int bo), some (.int f), some (.int t), some (.int x39), some (.int c), some (.int (dd + Int32.ofInt 1)), some (.int x32)], [])) (w1 := w29) rfl rfl ?_
                obtain ⟨x41, x41e⟩ : ∃ z, z = (dd + Int32.ofInt 1) := ⟨_, rfl⟩
                have x41t : x41.toInt = dd.toInt + (1) := by rw [x41e]; exact n_add (y := Int32.ofInt (1)) (by show _ ≤ _ + (1 : Int); omega) (by show _ + (1 : Int) ≤ _; omega)
                rw [← x41e]
                refine aw_step (f1 := (48, [some (.ref 65), some (.int bo), some (.int f), some (.int t), some (.int x39), some (.int c), some (.int x41), some (.int x32)], [])) (w1 := w29) rfl rfl ?_
                exact ih w29 x39 x41 _ (by omega) (by omega) (by omega) J30 (by omega) (by omega)
              · --
                refine s_i (pc1 := 129) (ls1 := [some (.ref 65), some (.int bo), some (.int f), some (.int t), some (.int more), some (.int c), some (.int dd), some (.int x32)]) (st1 := []) rfl rfl fun x42 e43 => ?_
                have e43t : x42.toInt = 1 := by rw [e43]; rfl
                refine aw_step (f1 := (133, [some (.ref 65), some (.int bo), some (.int f), some (.int t), some (.int more), some (.int c), some (.int dd), some (.int x32)], [(.int x42)])) (w1 := w29) rfl rfl ?_
                refine aw_step (f1 := (135, [some (.ref 65), some (.int bo), some (.int f), some (.int t), some (.int x42), some (.int c), some (.int dd), some (.int x32)], [])) (w1 := w29) rfl rfl ?_
                refine aw_step (f1 := (138, [some (.ref 65), some (.int bo), some (.int f), some (.int t), some (.int x42), some (.int c), some (.int (dd + Int32.ofInt 1)), some (.int x32)], [])) (w1 := w29) rfl rfl ?_
                obtain ⟨x44, x44e⟩ : ∃ z, z = (dd + Int32.ofInt 1) := ⟨_, rfl⟩
                have x44t : x44.toInt = dd.toInt + (1) := by rw [x44e]; exact n_add (y := Int32.ofInt (1)) (by show _ ≤ _ + (1 : Int); omega) (by show _ + (1 : Int) ≤ _; omega)
                rw [← x44e]
                refine aw_step (f1 := (48, [some (.ref 65), some (.int bo), some (.int f), some (.int t), some (.int x42), some (.int c), some (.int x44), some (.int x32)], [])) (w1 := w29) rfl rfl ?_
                exact ih w29 x42 x44 _ (by omega) (by omega) (by omega) J30 (by omega) (by omega)
          · --
            refine s_i (pc1 := 112) (ls1 := [some (.ref 65), some (.int bo), some (.int f), some (.int t), some (.int more), some (.int c), some (.int dd), o7]) (st1 := []) rfl rfl fun x45 e46 => ?_
            have e46t : x45.toInt = 1 := by rw [e46]; rfl
            refine aw_step (f1 := (116, [some (.ref 65), some (.int bo), some (.int f), some (.int t), some (.int more), some (.int c), some (.int dd), o7], [(.int x45)])) (w1 := w29) rfl rfl ?_
            refine aw_step (f1 := (118, [some (.ref 65), some (.int bo), some (.int f), some (.int t), some (.int more), some (.int c), some (.int dd), some (.int x45)], [])) (w1 := w29) rfl rfl ?_
            refine aw_step (f1 := (120, [some (.ref 65), some (.int bo), some (.int f), some (.int t), some (.int more), some (.int c), some (.int dd), some (.int x45)], [(.int more)])) (w1 := w29) rfl rfl ?_
            refine s_if 128 123 rfl rfl rfl (fun (h47 : ¬ more.toInt = 0) => ?_) (fun (h47 : ¬ (¬ more.toInt = 0)) => ?_)
            · --
              refine s_i (pc1 := 129) (ls1 := [some (.ref 65), some (.int bo), some (.int f), some (.int t), some (.int more), some (.int c), some (.int dd), some (.int x45)]) (st1 := []) rfl rfl fun x48 e49 => ?_
              have e49t : x48.toInt = 1 := by rw [e49]; rfl
              refine aw_step (f1 := (133, [some (.ref 65), some (.int bo), some (.int f), some (.int t), some (.int more), some (.int c), some (.int dd), some (.int x45)], [(.int x48)])) (w1 := w29) rfl rfl ?_
              refine aw_step (f1 := (135, [some (.ref 65), some (.int bo), some (.int f), some (.int t), some (.int x48), some (.int c), some (.int dd), some (.int x45)], [])) (w1 := w29) rfl rfl ?_
              refine aw_step (f1 := (138, [some (.ref 65), some (.int bo), some (.int f), some (.int t), some (.int x48), some (.int c), some (.int (dd + Int32.ofInt 1)), some (.int x45)], [])) (w1 := w29) rfl rfl ?_
              obtain ⟨x50, x50e⟩ : ∃ z, z = (dd + Int32.ofInt 1) := ⟨_, rfl⟩
              have x50t : x50.toInt = dd.toInt + (1) := by rw [x50e]; exact n_add (y := Int32.ofInt (1)) (by show _ ≤ _ + (1 : Int); omega) (by show _ + (1 : Int) ≤ _; omega)
              rw [← x50e]
              refine aw_step (f1 := (48, [some (.ref 65), some (.int bo), some (.int f), some (.int t), some (.int x48), some (.int c), some (.int x50), some (.int x45)], [])) (w1 := w29) rfl rfl ?_
              exact ih w29 x48 x50 _ (by omega) (by omega) (by omega) J30 (by omega) (by omega)
            · --
              refine aw_step (f1 := (125, [some (.ref 65), some (.int bo), some (.int f), some (.int t), some (.int more), some (.int c), some (.int dd), some (.int x45)], [(.int x45)])) (w1 := w29) rfl rfl ?_
              refine s_if 132 128 rfl rfl rfl (fun (h51 : x45.toInt = 0) => ?_) (fun (h51 : ¬ (x45.toInt = 0)) => ?_)
              · --
                refine s_i (pc1 := 133) (ls1 := [some (.ref 65), some (.int bo), some (.int f), some (.int t), some (.int more), some (.int c), some (.int dd), some (.int x45)]) (st1 := []) rfl rfl fun x52 e53 => ?_
                have e53t : x52.toInt = 0 := by rw [e53]; rfl
                refine aw_step (f1 := (135, [some (.ref 65), some (.int bo), some (.int f), some (.int t), some (.int x52), some (.int c), some (.int dd), some (.int x45)], [])) (w1 := w29) rfl rfl ?_
                refine aw_step (f1 := (138, [some (.ref 65), some (.int bo), some (.int f), some (.int t), some (.int x52), some (.int c), some (.int (dd + Int32.ofInt 1)), some (.int x45)], [])) (w1 := w29) rfl rfl ?_
                obtain ⟨x54, x54e⟩ : ∃ z, z = (dd + Int32.ofInt 1) := ⟨_, rfl⟩
                have x54t : x54.toInt = dd.toInt + (1) := by rw [x54e]; exact n_add (y := Int32.ofInt (1)) (by show _ ≤ _ + (1 : Int); omega) (by show _ + (1 : Int) ≤ _; omega)
                rw [← x54e]
                refine aw_step (f1 := (48, [some (.ref 65), some (.int bo), some (.int f), some (.int t), some (.int x52), some (.int c), some (.int x54), some (.int x45)], [])) (w1 := w29) rfl rfl ?_
                exact ih w29 x52 x54 _ (by omega) (by omega) (by omega) J30 (by omega) (by omega)
              · --
                refine s_i (pc1 := 129) (ls1 := [some (.ref 65), some (.int bo), some (.int f), some (.int t), some (.int more), some (.int c), some (.int dd), some (.int x45)]) (st1 := []) rfl rfl fun x55 e56 => ?_
                have e56t : x55.toInt = 1 := by rw [e56]; rfl
                refine aw_step (f1 := (133, [some (.ref 65), some (.int bo), some (.int f), some (.int t), some (.int more), some (.int c), some (.int dd), some (.int x45)], [(.int x55)])) (w1 := w29) rfl rfl ?_
                refine aw_step (f1 := (135, [some (.ref 65), some (.int bo), some (.int f), some (.int t), some (.int x55), some (.int c), some (.int dd), some (.int x45)], [])) (w1 := w29) rfl rfl ?_
                refine aw_step (f1 := (138, [some (.ref 65), some (.int bo), some (.int f), some (.int t), some (.int x55), some (.int c), some (.int (dd + Int32.ofInt 1)), some (.int x45)], [])) (w1 := w29) rfl rfl ?_
                obtain ⟨x57, x57e⟩ : ∃ z, z = (dd + Int32.ofInt 1) := ⟨_, rfl⟩
                have x57t : x57.toInt = dd.toInt + (1) := by rw [x57e]; exact n_add (y := Int32.ofInt (1)) (by show _ ≤ _ + (1 : Int); omega) (by show _ + (1 : Int) ≤ _; omega)
                rw [← x57e]
                refine aw_step (f1 := (48, [some (.ref 65), some (.int bo), some (.int f), some (.int t), some (.int x55), some (.int c), some (.int x57), some (.int x45)], [])) (w1 := w29) rfl rfl ?_
                exact ih w29 x55 x57 _ (by omega) (by omega) (by omega) J30 (by omega) (by omega)
theorem q_wornJ {d : Nat} {Q : Option Value → am_W → Prop} {w00 : am_W} {z s0 : Int} (bo f t : Int32) (K : ∀ (w : am_W) (more c : Int32) (o6 o7 : Option Value), ab_J ab_TT ab_sets ab_WR w00 w → szM w = z → ((more.toInt = 1 ∧ sC w < s0) ∨ (more.toInt = 0 ∧ sC w ≤ s0)) → aw none (d + 3) 148 Q (147, [some (.ref 65), some (.int bo), some (.int f), some (.int t), some (.int more), some (.int c), o6, o7], []) w) : ∀ (m : Nat) (w : am_W) (more c : Int32) (o6 o7 : Option Value), (z - c.toInt).toNat < m → 0 ≤ c.toInt → c.toInt ≤ z → ab_J ab_TT ab_sets ab_WR w00 w → szM w = z → ((more.toInt = 1 ∧ sC w < s0) ∨ (more.toInt = 0 ∧ sC w ≤ s0)) → aw none (d + 3) 148 Q (36, [some (.ref 65), some (.int bo), some (.int f), some (.int t), some (.int more), some (.int c), o6, o7], []) w := by
  intro m
  induction m with
  | zero => intro w more c o6 o7 p; omega
  | succ m ih =>
    intro w more c o6 o7 p1 p2 p3 J zz R
    have sz := szM_in J.1
    refine aw_step (f1 := (38, [some (.ref 65), some (.int bo), some (.int f), some (.int t), some (.int more), some (.int c), o6, o7], [(.int c)])) (w1 := w) rfl rfl ?_
    refine aw_step (f1 := (39, [some (.ref 65), some (.int bo), some (.int f), some (.int t), some (.int more), some (.int c), o6, o7], [(.ref 65), (.int c)])) (w1 := w) rfl rfl ?_
    refine s_cv (z := 113) (p := 65) (as := []) (st1 := [(.int c)]) J 42 rfl rfl rfl rfl rfl rfl rfl rfl (Nat.le_of_ble_eq_true rfl) (Nat.le_of_ble_eq_true rfl) (q_cells J.1) ?_
    rintro _ _ ⟨rfl, x1, rfl, x1t⟩
    refine ⟨rfl, ?_⟩
    show aw none _ 148 _ (42, [some (.ref 65), some (.int bo), some (.int f), some (.int t), some (.int more), some (.int c), o6, o7], [(.int x1), (.int c)]) w
    have x1s := szM_in J.1
    refine s_ic 147 45 rfl rfl rfl (fun (h2 : x1.toInt ≤ c.toInt) => ?_) (fun (h2 : ¬ (x1.toInt ≤ c.toInt)) => ?_)
    · --
      exact K w more c _ _ J zz R
    · --
      refine s_i (pc1 := 46) (ls1 := [some (.ref 65), some (.int bo), some (.int f), some (.int t), some (.int more), some (.int c), o6, o7]) (st1 := []) rfl rfl fun x3 e4 => ?_
      have e4t : x3.toInt = 0 := by rw [e4]; rfl
      refine aw_step (f1 := (48, [some (.ref 65), some (.int bo), some (.int f), some (.int t), some (.int more), some (.int c), some (.int x3), o7], [])) (w1 := w) rfl rfl ?_
      refine q_wornI bo f t c ⟨by omega, by omega⟩ (fun wq mq dq o7q Jq zq Rq => ?_) (z.toNat + 1) w more x3 _ (by omega) (by omega) (by omega) J zz R
      refine aw_step (f1 := (144, [some (.ref 65), some (.int bo), some (.int f), some (.int t), some (.int mq), some (.int (c + Int32.ofInt 1)), some (.int dq), o7q], [])) (w1 := wq) rfl rfl ?_
      obtain ⟨zx1, zx1e⟩ : ∃ z, z = (c + Int32.ofInt 1) := ⟨_, rfl⟩
      have zx1t : zx1.toInt = c.toInt + (1) := by rw [zx1e]; exact n_add (y := Int32.ofInt (1)) (by show _ ≤ _ + (1 : Int); omega) (by show _ + (1 : Int) ≤ _; omega)
      rw [← zx1e]
      refine aw_step (f1 := (36, [some (.ref 65), some (.int bo), some (.int f), some (.int t), some (.int mq), some (.int zx1), some (.int dq), o7q], [])) (w1 := wq) rfl rfl ?_
      exact ih wq mq zx1 _ _ (by omega) (by omega) (by omega) Jq zq Rq
theorem q_wornO {d : Nat} {w00 : am_W} (bo f t : Int32) (ht : 0 ≤ t.toInt ∧ t.toInt < 36) : ∀ (m : Nat) (w : am_W) (more : Int32) (o5 o6 o7 : Option Value), ((sC w).toNat + more.toInt.toNat) < m → (more.toInt = 0 ∨ more.toInt = 1) → ab_J ab_TT ab_sets ab_WR w00 w → aw none (d + 3) 148 (QS w00) (25, [some (.ref 65), some (.int bo), some (.int f), some (.int t), some (.int more), o5, o6, o7], []) w := by
  intro m
  induction m with
  | zero => intro w more o5 o6 o7 p; omega
  | succ m ih =>
    intro w more o5 o6 o7 p1 p2 J
    have sz := szM_in J.1
    refine aw_step (f1 := (27, [some (.ref 65), some (.int bo), some (.int f), some (.int t), some (.int more), o5, o6, o7], [(.int more)])) (w1 := w) rfl rfl ?_
    refine s_if 150 30 rfl rfl rfl (fun (h1 : more.toInt = 0) => ?_) (fun (h1 : ¬ (more.toInt = 0)) => ?_)
    · --
      refine aw_step (f1 := (151, [some (.ref 65), some (.int bo), some (.int f), some (.int t), some (.int more), o5, o6, o7], [(.ref 65)])) (w1 := w) rfl rfl ?_
      refine s_gr 78 J 154 rfl rfl rfl rfl rfl rfl ?_
      refine aw_step (f1 := (155, [some (.ref 65), some (.int bo), some (.int f), some (.int t), some (.int more), o5, o6, o7], [(.int t), (.ref 78)])) (w1 := w) rfl rfl ?_
      refine s_ia J 156 rfl rfl rfl rfl (by omega) (by omega) fun x2 x2a x2b x2f => ?_
      refine s_i (pc1 := 158) (ls1 := [some (.ref 65), some (.int bo), some (.int f), some (.int t), some (.int more), o5, o6, o7]) (st1 := [(.int x2)]) rfl rfl fun x3 e4 => ?_
      have e4t : x3.toInt = 100000 := by rw [e4]; rfl
      refine s_ic 166 161 rfl rfl rfl (fun (h5 : ¬ x2.toInt = x3.toInt) => ?_) (fun (h5 : ¬ (¬ x2.toInt = x3.toInt)) => ?_)
      · --
        refine aw_step (f1 := (167, [some (.ref 65), some (.int bo), some (.int f), some (.int t), some (.int more), o5, o6, o7], [(.ref 65)])) (w1 := w) rfl rfl ?_
        refine s_gr 78 J 170 rfl rfl rfl rfl rfl rfl ?_
        refine aw_step (f1 := (171, [some (.ref 65), some (.int bo), some (.int f), some (.int t), some (.int more), o5, o6, o7], [(.int t), (.ref 78)])) (w1 := w) rfl rfl ?_
        refine s_ia J 172 rfl rfl rfl rfl (by omega) (by omega) fun x6 x6a x6b x6f => ?_
        refine aw_ret (v := some (.int x6)) rfl rfl ?_
        exact ⟨J, x6, rfl⟩
      · --
        refine s_i (pc1 := 163) (ls1 := [some (.ref 65), some (.int bo), some (.int f), some (.int t), some (.int more), o5, o6, o7]) (st1 := []) rfl rfl fun x7 e8 => ?_
        have e8t : x7.toInt = -6 := by rw [e8]; rfl
        refine aw_step (f1 := (172, [some (.ref 65), some (.int bo), some (.int f), some (.int t), some (.int more), o5, o6, o7], [(.int x7)])) (w1 := w) rfl rfl ?_
        refine aw_ret (v := some (.int x7)) rfl rfl ?_
        exact ⟨J, x7, rfl⟩
    · --
      refine s_i (pc1 := 31) (ls1 := [some (.ref 65), some (.int bo), some (.int f), some (.int t), some (.int more), o5, o6, o7]) (st1 := []) rfl rfl fun x9 e10 => ?_
      have e10t : x9.toInt = 0 := by rw [e10]; rfl
      refine aw_step (f1 := (33, [some (.ref 65), some (.int bo), some (.int f), some (.int t), some (.int x9), o5, o6, o7], [])) (w1 := w) rfl rfl ?_
      refine s_i (pc1 := 34) (ls1 := [some (.ref 65), some (.int bo), some (.int f), some (.int t), some (.int x9), o5, o6, o7]) (st1 := []) rfl rfl fun x11 e12 => ?_
      have e12t : x11.toInt = 0 := by rw [e12]; rfl
      refine aw_step (f1 := (36, [some (.ref 65), some (.int bo), some (.int f), some (.int t), some (.int x9), some (.int x11), o6, o7], [])) (w1 := w) rfl rfl ?_
      have s1 := sC_0 J.1
      refine q_wornJ (z := szM w) (s0 := sC w) bo f t (fun wq mq cq o6q o7q Jq zq Rq => ?_) ((szM w).toNat + 1) w x9 x11 _ _ (by omega) (by omega) (by omega) J rfl (by omega)
      have s2 := sC_0 Jq.1
      refine aw_step (f1 := (25, [some (.ref 65), some (.int bo), some (.int f), some (.int t), some (.int mq), some (.int cq), o6q, o7q], [])) (w1 := wq) rfl rfl ?_
      exact ih wq mq _ _ _ (by omega) (by omega) Jq
theorem q_worn {d : Nat} {w : am_W} (bo f t : Int32) (I : ab_inv ab_TT ab_sets w) : aw none (d + 6) 148 (QS w) (0, am_entry 148 [.ref 65, .int bo, .int f, .int t], []) w := by
  have J : ab_J ab_TT ab_sets ab_WR w w := ⟨I, ab_fr.rf⟩
  have sz := szM_in I
  show aw none (d + 6) 148 _ (0, [some (.ref 65), some (.int bo), some (.int f), some (.int t), none, none, none, none], []) w
  refine aw_step (f1 := (1, [some (.ref 65), some (.int bo), some (.int f), some (.int t), none, none, none, none], [(.ref 65)])) (w1 := w) rfl rfl ?_
  refine aw_step (f1 := (2, [some (.ref 65), some (.int bo), some (.int f), some (.int t), none, none, none, none], [(.int bo), (.ref 65)])) (w1 := w) rfl rfl ?_
  refine aw_step (f1 := (3, [some (.ref 65), some (.int bo), some (.int f), some (.int t), none, none, none, none], [(.int f), (.int bo), (.ref 65)])) (w1 := w) rfl rfl ?_
  refine aw_step (f1 := (4, [some (.ref 65), some (.int bo), some (.int f), some (.int t), none, none, none, none], [(.int t), (.int f), (.int bo), (.ref 65)])) (w1 := w) rfl rfl ?_
  refine s_cv (z := 143) (p := 65) (as := [(.int bo), (.int f), (.int t)]) (st1 := []) J 7 rfl rfl rfl rfl rfl rfl rfl rfl (Nat.le_of_ble_eq_true rfl) (Nat.le_of_ble_eq_true rfl) (q_isAsked bo f t J.1) ?_
  rintro _ _ ⟨rfl, x1, rfl, x1t⟩
  refine ⟨rfl, ?_⟩
  show aw none _ 148 _ (7, [some (.ref 65), some (.int bo), some (.int f), some (.int t), none, none, none, none], [(.int x1)]) w
  have x1s := szM_in J.1
  refine s_if 12 10 rfl rfl rfl (fun (h2 : ¬ x1.toInt = 0) => ?_) (fun (h2 : ¬ (¬ x1.toInt = 0)) => ?_)
  · --
    refine aw_step (f1 := (13, [some (.ref 65), some (.int bo), some (.int f), some (.int t), none, none, none, none], [(.ref 65)])) (w1 := w) rfl rfl ?_
    refine aw_step (f1 := (14, [some (.ref 65), some (.int bo), some (.int f), some (.int t), none, none, none, none], [(.int bo), (.ref 65)])) (w1 := w) rfl rfl ?_
    refine s_cv (z := 133) (p := 65) (as := [(.int bo)]) (st1 := []) J 17 rfl rfl rfl rfl rfl rfl rfl rfl (Nat.le_of_ble_eq_true rfl) (Nat.le_of_ble_eq_true rfl) (q_putOn bo ⟨by omega, by omega⟩ J.1) ?_
    rintro _ w3 ⟨rfl, J4c, w3o, w3p⟩
    have J4 := J.trans J4c
    refine ⟨am_len2 J J4c, ?_⟩
    show aw none _ 148 _ (17, [some (.ref 65), some (.int bo), some (.int f), some (.int t), none, none, none, none], []) w3
    have zo := w3o.sz (by decide)
    refine aw_step (f1 := (18, [some (.ref 65), some (.int bo), some (.int f), some (.int t), none, none, none, none], [(.ref 65)])) (w1 := w3) rfl rfl ?_
    refine aw_step (f1 := (19, [some (.ref 65), some (.int bo), some (.int f), some (.int t), none, none, none, none], [(.int f), (.ref 65)])) (w1 := w3) rfl rfl ?_
    refine s_cv (z := 146) (p := 65) (as := [(.int f)]) (st1 := []) J4 22 rfl rfl rfl rfl rfl rfl rfl rfl (Nat.le_of_ble_eq_true rfl) (Nat.le_of_ble_eq_true rfl) (q_beginCosts f ⟨by omega, by omega⟩ J4.1) ?_
    rintro _ w5 ⟨rfl, J6c, w5o, w5p⟩
    have J6 := J4.trans J6c
    refine ⟨am_len2 J4 J6c, ?_⟩
    show aw none _ 148 _ (22, [some (.ref 65), some (.int bo), some (.int f), some (.int t), none, none, none, none], []) w5
    refine s_i (pc1 := 23) (ls1 := [some (.ref 65), some (.int bo), some (.int f), some (.int t), none, none, none, none]) (st1 := []) rfl rfl fun x7 e8 => ?_
    have e8t : x7.toInt = 1 := by rw [e8]; rfl
    refine aw_step (f1 := (25, [some (.ref 65), some (.int bo), some (.int f), some (.int t), some (.int x7), none, none, none], [])) (w1 := w5) rfl rfl ?_
    exact q_wornO bo f t ⟨by omega, by omega⟩ ((sC w5).toNat + 2) w5 x7 _ _ _ (by omega) (by omega) J6
  · --
    refine s_i (pc1 := 11) (ls1 := [some (.ref 65), some (.int bo), some (.int f), some (.int t), none, none, none, none]) (st1 := []) rfl rfl fun x9 e10 => ?_
    have e10t : x9.toInt = -1 := by rw [e10]; rfl
    refine aw_ret (v := some (.int x9)) rfl rfl ?_
    exact ⟨J, x9, rfl⟩
theorem q_timeC {d : Nat} {Q : Option Value → am_W → Prop} {w00 : am_W} {z s0 : Int} (bo f t more c dd be a : Int32) (o9 : Option Value) (hbe : be.toInt = 0 ∨ be.toInt = 1) (hc : 0 ≤ c.toInt ∧ c.toInt < z) (hd : 0 ≤ dd.toInt ∧ dd.toInt < z) (K : ∀ (w : am_W) (m2 d2 : Int32) (o7 o8 o9 : Option Value), d2.toInt = dd.toInt + 1 → ab_J ab_TT ab_sets ab_WR w00 w → szM w = z → ((m2.toInt = 1 ∧ sC w < s0) ∨ (m2.toInt = 0 ∧ sC w ≤ s0)) → aw none (d + 3) 151 Q (48, [some (.ref 65), some (.int bo), some (.int f), some (.int t), some (.int m2), some (.int c), some (.int d2), o7, o8, o9], []) w) (w : am_W) (J : ab_J ab_TT ab_sets ab_WR w00 w) (zz : szM w = z) (R : (((more.toInt = 1 ∧ a.toInt = 1) ∨ (more.toInt = 1 ∧ a.toInt = 0) ∨ (more.toInt = 0 ∧ a.toInt = 1)) ∧ sC w < s0) ∨ (more.toInt = 0 ∧ a.toInt = 0 ∧ sC w ≤ s0)) : aw none (d + 3) 151 Q (140, [some (.ref 65), some (.int bo), some (.int f), some (.int t), some (.int more), some (.int c), some (.int dd), some (.int be), some (.int a), o9], []) w := by
  have sz := szM_in J.1
  refine aw_step (f1 := (142, [some (.ref 65), some (.int bo), some (.int f), some (.int t), some (.int more), some (.int c), some (.int dd), some (.int be), some (.int a), o9], [(.int be)])) (w1 := w) rfl rfl ?_
  refine s_if 170 145 rfl rfl rfl (fun (h1 : be.toInt = 0) => ?_) (fun (h1 : ¬ (be.toInt = 0)) => ?_)
  · --
    refine s_i (pc1 := 171) (ls1 := [some (.ref 65), some (.int bo), some (.int f), some (.int t), some (.int more), some (.int c), some (.int dd), some (.int be), some (.int a), o9]) (st1 := []) rfl rfl fun x2 e3 => ?_
    have e3t : x2.toInt = 0 := by rw [e3]; rfl
    refine aw_step (f1 := (173, [some (.ref 65), some (.int bo), some (.int f), some (.int t), some (.int more), some (.int c), some (.int dd), some (.int be), some (.int a), some (.int x2)], [])) (w1 := w) rfl rfl ?_
    refine aw_step (f1 := (175, [some (.ref 65), some (.int bo), some (.int f), some (.int t), some (.int more), some (.int c), some (.int dd), some (.int be), some (.int a), some (.int x2)], [(.int more)])) (w1 := w) rfl rfl ?_
    refine s_if 188 178 rfl rfl rfl (fun (h4 : ¬ more.toInt = 0) => ?_) (fun (h4 : ¬ (¬ more.toInt = 0)) => ?_)
    · --
      refine s_i (pc1 := 189) (ls1 := [some (.ref 65), some (.int bo), some (.int f), some (.int t), some (.int more), some (.int c), some (.int dd), some (.int be), some (.int a), some (.int x2)]) (st1 := []) rfl rfl fun x5 e6 => ?_
      have e6t : x5.toInt = 1 := by rw [e6]; rfl
      refine aw_step (f1 := (193, [some (.ref 65), some (.int bo), some (.int f), some (.int t), some (.int more), some (.int c), some (.int dd), some (.int be), some (.int a), some (.int x2)], [(.int x5)])) (w1 := w) rfl rfl ?_
      refine aw_step (f1 := (195, [some (.ref 65), some (.int bo), some (.int f), some (.int t), some (.int x5), some (.int c), some (.int dd), some (.int be), some (.int a), some (.int x2)], [])) (w1 := w) rfl rfl ?_
      refine aw_step (f1 := (198, [some (.ref 65), some (.int bo), some (.int f), some (.int t), some (.int x5), some (.int c), some (.int (dd + Int32.ofInt 1)), some (.int be), some (.int a), some (.int x2)], [])) (w1 := w) rfl rfl ?_
      obtain ⟨x7, x7e⟩ : ∃ z, z = (dd + Int32.ofInt 1) := ⟨_, rfl⟩
      have x7t : x7.toInt = dd.toInt + (1) := by rw [x7e]; exact n_add (y := Int32.ofInt (1)) (by show _ ≤ _ + (1 : Int); omega) (by show _ + (1 : Int) ≤ _; omega)
      rw [← x7e]
      refine aw_step (f1 := (48, [some (.ref 65), some (.int bo), some (.int f), some (.int t), some (.int x5), some (.int c), some (.int x7), some (.int be), some (.int a), some (.int x2)], [])) (w1 := w) rfl rfl ?_
      exact K w x5 x7 _ _ _ (by omega) J (by omega) (by omega)
    · --
      refine aw_step (f1 := (180, [some (.ref 65), some (.int bo), some (.int f), some (.int t), some (.int more), some (.int c), some (.int dd), some (.int be), some (.int a), some (.int x2)], [(.int a)])) (w1 := w) rfl rfl ?_
      refine s_if 188 183 rfl rfl rfl (fun (h8 : ¬ a.toInt = 0) => ?_) (fun (h8 : ¬ (¬ a.toInt = 0)) => ?_)
      · --
        refine s_i (pc1 := 189) (ls1 := [some (.ref 65), some (.int bo), some (.int f), some (.int t), some (.int more), some (.int c), some (.int dd), some (.int be), some (.int a), some (.int x2)]) (st1 := []) rfl rfl fun x9 e10 => ?_
        have e10t : x9.toInt = 1 := by rw [e10]; rfl
        refine aw_step (f1 := (193, [some (.ref 65), some (.int bo), some (.int f), some (.int t), some (.int more), some (.int c), some (.int dd), some (.int be), some (.int a), some (.int x2)], [(.int x9)])) (w1 := w) rfl rfl ?_
        refine aw_step (f1 := (195, [some (.ref 65), some (.int bo), some (.int f), some (.int t), some (.int x9), some (.int c), some (.int dd), some (.int be), some (.int a), some (.int x2)], [])) (w1 := w) rfl rfl ?_
        refine aw_step (f1 := (198, [some (.ref 65), some (.int bo), some (.int f), some (.int t), some (.int x9), some (.int c), some (.int (dd + Int32.ofInt 1)), some (.int be), some (.int a), some (.int x2)], [])) (w1 := w) rfl rfl ?_
        obtain ⟨x11, x11e⟩ : ∃ z, z = (dd + Int32.ofInt 1) := ⟨_, rfl⟩
        have x11t : x11.toInt = dd.toInt + (1) := by rw [x11e]; exact n_add (y := Int32.ofInt (1)) (by show _ ≤ _ + (1 : Int); omega) (by show _ + (1 : Int) ≤ _; omega)
        rw [← x11e]
        refine aw_step (f1 := (48, [some (.ref 65), some (.int bo), some (.int f), some (.int t), some (.int x9), some (.int c), some (.int x11), some (.int be), some (.int a), some (.int x2)], [])) (w1 := w) rfl rfl ?_
        exact K w x9 x11 _ _ _ (by omega) J (by omega) (by omega)
      · --
        refine aw_step (f1 := (185, [some (.ref 65), some (.int bo), some (.int f), some (.int t), some (.int more), some (.int c), some (.int dd), some (.int be), some (.int a), some (.int x2)], [(.int x2)])) (w1 := w) rfl rfl ?_
        refine s_if 192 188 rfl rfl rfl (fun (h12 : x2.toInt = 0) => ?_) (fun (h12 : ¬ (x2.toInt = 0)) => ?_)
        · --
          refine s_i (pc1 := 193) (ls1 := [some (.ref 65), some (.int bo), some (.int f), some (.int t), some (.int more), some (.int c), some (.int dd), some (.int be), some (.int a), some (.int x2)]) (st1 := []) rfl rfl fun x13 e14 => ?_
          have e14t : x13.toInt = 0 := by rw [e14]; rfl
          refine aw_step (f1 := (195, [some (.ref 65), some (.int bo), some (.int f), some (.int t), some (.int x13), some (.int c), some (.int dd), some (.int be), some (.int a), some (.int x2)], [])) (w1 := w) rfl rfl ?_
          refine aw_step (f1 := (198, [some (.ref 65), some (.int bo), some (.int f), some (.int t), some (.int x13), some (.int c), some (.int (dd + Int32.ofInt 1)), some (.int be), some (.int a), some (.int x2)], [])) (w1 := w) rfl rfl ?_
          obtain ⟨x15, x15e⟩ : ∃ z, z = (dd + Int32.ofInt 1) := ⟨_, rfl⟩
          have x15t : x15.toInt = dd.toInt + (1) := by rw [x15e]; exact n_add (y := Int32.ofInt (1)) (by show _ ≤ _ + (1 : Int); omega) (by show _ + (1 : Int) ≤ _; omega)
          rw [← x15e]
          refine aw_step (f1 := (48, [some (.ref 65), some (.int bo), some (.int f), some (.int t), some (.int x13), some (.int c), some (.int x15), some (.int be), some (.int a), some (.int x2)], [])) (w1 := w) rfl rfl ?_
          exact K w x13 x15 _ _ _ (by omega) J (by omega) (by omega)
        · --
          refine s_i (pc1 := 189) (ls1 := [some (.ref 65), some (.int bo), some (.int f), some (.int t), some (.int more), some (.int c), some (.int dd), some (.int be), some (.int a), some (.int x2)]) (st1 := []) rfl rfl fun x16 e17 => ?_
          have e17t : x16.toInt = 1 := by rw [e17]; rfl
          refine aw_step (f1 := (193, [some (.ref 65), some (.int bo), some (.int f), some (.int t), some (.int more), some (.int c), some (.int dd), some (.int be), some (.int a), some (.int x2)], [(.int x16)])) (w1 := w) rfl rfl ?_
          refine aw_step (f1 := (195, [some (.ref 65), some (.int bo), some (.int f), some (.int t), some (.int x16), some (.int c), some (.int dd), some (.int be), some (.int a), some (.int x2)], [])) (w1 := w) rfl rfl ?_
          refine aw_step (f1 := (198, [some (.ref 65), some (.int bo), some (.int f), some (.int t), some (.int x16), some (.int c), some (.int (dd + Int32.ofInt 1)), some (.int be), some (.int a), some (.int x2)], [])) (w1 := w) rfl rfl ?_
          obtain ⟨x18, x18e⟩ : ∃ z, z = (dd + Int32.ofInt 1) := ⟨_, rfl⟩
          have x18t : x18.toInt = dd.toInt + (1) := by rw [x18e]; exact n_add (y := Int32.ofInt (1)) (by show _ ≤ _ + (1 : Int); omega) (by show _ + (1 : Int) ≤ _; omega)
          rw [← x18e]
          refine aw_step (f1 := (48, [some (.ref 65), some (.int bo), some (.int f), some (.int t), some (.int x16), some (.int c), some (.int x18), some (.int be), some (.int a), some (.int x2)], [])) (w1 := w) rfl rfl ?_
          exact K w x16 x18 _ _ _ (by omega) J (by omega) (by omega)
  · --
    refine aw_step (f1 := (146, [some (.ref 65), some (.int bo), some (.int f), some (.int t), some (.int more), some (.int c), some (.int dd), some (.int be), some (.int a), o9], [(.ref 65)])) (w1 := w) rfl rfl ?_
    refine aw_step (f1 := (148, [some (.ref 65), some (.int bo), some (.int f), some (.int t), some (.int more), some (.int c), some (.int dd), some (.int be), some (.int a), o9], [(.int dd), (.ref 65)])) (w1 := w) rfl rfl ?_
    refine aw_step (f1 := (149, [some (.ref 65), some (.int bo), some (.int f), some (.int t), some (.int more), some (.int c), some (.int dd), some (.int be), some (.int a), o9], [(.ref 65), (.int dd), (.ref 65)])) (w1 := w) rfl rfl ?_
    refine s_gr 78 J 152 rfl rfl rfl rfl rfl rfl ?_
    refine aw_step (f1 := (154, [some (.ref 65), some (.int bo), some (.int f), some (.int t), some (.int more), some (.int c), some (.int dd), some (.int be), some (.int a), o9], [(.int c), (.ref 78), (.int dd), (.ref 65)])) (w1 := w) rfl rfl ?_
    refine s_ia J 155 rfl rfl rfl rfl (by omega) (by omega) fun x19 x19a x19b x19f => ?_
    refine aw_step (f1 := (156, [some (.ref 65), some (.int bo), some (.int f), some (.int t), some (.int more), some (.int c), some (.int dd), some (.int be), some (.int a), o9], [(.ref 65), (.int x19), (.int dd), (.ref 65)])) (w1 := w) rfl rfl ?_
    refine s_gi J 159 rfl rfl rfl rfl rfl rfl fun x20 x20a x20b x20f => ?_
    refine s_i (pc1 := 160) (ls1 := [some (.ref 65), some (.int bo), some (.int f), some (.int t), some (.int more), some (.int c), some (.int dd), some (.int be), some (.int a), o9]) (st1 := [(.int dd), (.ref 65)]) rfl rfl fun x21 e22 => ?_
    have e22 : x21 = x19 + x20 := e22
    have e22t : x21.toInt = x19.toInt + x20.toInt := by rw [e22]; exact n_add (by omega) (by omega)
    refine s_cv (z := 147) (p := 65) (as := [(.int dd), (.int x21)]) (st1 := []) J 163 rfl rfl rfl rfl rfl rfl rfl rfl (Nat.le_of_ble_eq_true rfl) (Nat.le_of_ble_eq_true rfl) (q_cheapen dd x21 ⟨by omega, by omega⟩ (by omega) J.1) ?_
    rintro _ w24 ⟨x23, rfl, J25c, w24o, w24p⟩
    have J25 := J.trans J25c
    refine ⟨am_len2 J J25c, ?_⟩
    show aw none _ 151 _ (163, [some (.ref 65), some (.int bo), some (.int f), some (.int t), some (.int more), some (.int c), some (.int dd), some (.int be), some (.int a), o9], [(.int x23)]) w24
    have w24s := w24p.s (by omega)
    have w24z := w24o.sz (by decide)
    refine s_if 170 166 rfl rfl rfl (fun (h26 : x23.toInt = 0) => ?_) (fun (h26 : ¬ (x23.toInt = 0)) => ?_)
    · --
      refine s_i (pc1 := 171) (ls1 := [some (.ref 65), some (.int bo), some (.int f), some (.int t), some (.int more), some (.int c), some (.int dd), some (.int be), some (.int a), o9]) (st1 := []) rfl rfl fun x27 e28 => ?_
      have e28t : x27.toInt = 0 := by rw [e28]; rfl
      refine aw_step (f1 := (173, [some (.ref 65), some (.int bo), some (.int f), some (.int t), some (.int more), some (.int c), some (.int dd), some (.int be), some (.int a), some (.int x27)], [])) (w1 := w24) rfl rfl ?_
      refine aw_step (f1 := (175, [some (.ref 65), some (.int bo), some (.int f), some (.int t), some (.int more), some (.int c), some (.int dd), some (.int be), some (.int a), some (.int x27)], [(.int more)])) (w1 := w24) rfl rfl ?_
      refine s_if 188 178 rfl rfl rfl (fun (h29 : ¬ more.toInt = 0) => ?_) (fun (h29 : ¬ (¬ more.toInt = 0)) => ?_)
      · --
        refine s_i (pc1 := 189) (ls1 := [some (.ref 65), some (.int bo), some (.int f), some (.int t), some (.int more), some (.int c), some (.int dd), some (.int be), some (.int a), some (.int x27)]) (st1 := []) rfl rfl fun x30 e31 => ?_
        have e31t : x30.toInt = 1 := by rw [e31]; rfl
        refine aw_step (f1 := (193, [some (.ref 65), some (.int bo), some (.int f), some (.int t), some (.int more), some (.int c), some (.int dd), some (.int be), some (.int a), some (.int x27)], [(.int x30)])) (w1 := w24) rfl rfl ?_
        refine aw_step (f1 := (195, [some (.ref 65), some (.int bo), some (.int f), some (.int t), some (.int x30), some (.int c), some (.int dd), some (.int be), some (.int a), some (.int x27)], [])) (w1 := w24) rfl rfl ?_
        refine aw_step (f1 := (198, [some (.ref 65), some (.int bo), some (.int f), some (.int t), some (.int x30), some (.int c), some (.int (dd + Int32.ofInt 1)), some (.int be), some (.int a), some (.int x27)], [])) (w1 := w24) rfl rfl ?_
        obtain ⟨x32, x32e⟩ : ∃ z, z = (dd + Int32.ofInt 1) := ⟨_, rfl⟩
        have x32t : x32.toInt = dd.toInt + (1) := by rw [x32e]; exact n_add (y := Int32.ofInt (1)) (by show _ ≤ _ + (1 : Int); omega) (by show _ + (1 : Int) ≤ _; omega)
        rw [← x32e]
        refine aw_step (f1 := (48, [some (.ref 65), some (.int bo), some (.int f), some (.int t), some (.int x30), some (.int c), some (.int x32), some (.int be), some (.int a), some (.int x27)], [])) (w1 := w24) rfl rfl ?_
        exact K w24 x30 x32 _ _ _ (by omega) J25 (by omega) (by omega)
      · --
        refine aw_step (f1 := (180, [some (.ref 65), some (.int bo), some (.int f), some (.int t), some (.int more), some (.int c), some (.int dd), some (.int be), some (.int a), some (.int x27)], [(.int a)])) (w1 := w24) rfl rfl ?_
        refine s_if 188 183 rfl rfl rfl (fun (h33 : ¬ a.toInt = 0) => ?_) (fun (h33 : ¬ (¬ a.toInt = 0)) => ?_)
        · --
          refine s_i (pc1 := 189) (ls1 := [some (.ref 65), some (.int bo), some (.int f), some (.int t), some (.int more), some (.int c), some (.int dd), some (.int be), some (.int a), some (.int x27)]) (st1 := []) rfl rfl fun x34 e35 => ?_
          have e35t : x34.toInt = 1 := by rw [e35]; rfl
          refine aw_step (f1 := (193, [some (.ref 65), some (.int bo), some (.int f), some (.int t), some (.int more), some (.int c), some (.int dd), some (.int be), some (.int a), some (.int x27)], [(.int x34)])) (w1 := w24) rfl rfl ?_
          refine aw_step (f1 := (195, [some (.ref 65), some (.int bo), some (.int f), some (.int t), some (.int x34), some (.int c), some (.int dd), some (.int be), some (.int a), some (.int x27)], [])) (w1 := w24) rfl rfl ?_
          refine aw_step (f1 := (198, [some (.ref 65), some (.int bo), some (.int f), some (.int t), some (.int x34), some (.int c), some (.int (dd + Int32.ofInt 1)), some (.int be), some (.int a), some (.int x27)], [])) (w1 := w24) rfl rfl ?_
          obtain ⟨x36, x36e⟩ : ∃ z, z = (dd + Int32.ofInt 1) := ⟨_, rfl⟩
          have x36t : x36.toInt = dd.toInt + (1) := by rw [x36e]; exact n_add (y := Int32.ofInt (1)) (by show _ ≤ _ + (1 : Int); omega) (by show _ + (1 : Int) ≤ _; omega)
          rw [← x36e]
          refine aw_step (f1 := (48, [some (.ref 65), some (.int bo), some (.int f), some (.int t), some (.int x34), some (.int c), some (.int x36), some (.int be), some (.int a), some (.int x27)], [])) (w1 := w24) rfl rfl ?_
          exact K w24 x34 x36 _ _ _ (by omega) J25 (by omega) (by omega)
        · --
          refine aw_step (f1 := (185, [some (.ref 65), some (.int bo), some (.int f), some (.int t), some (.int more), some (.int c), some (.int dd), some (.int be), some (.int a), some (.int x27)], [(.int x27)])) (w1 := w24) rfl rfl ?_
          refine s_if 192 188 rfl rfl rfl (fun (h37 : x27.toInt = 0) => ?_) (fun (h37 : ¬ (x27.toInt = 0)) => ?_)
          · --
            refine s_i (pc1 := 193) (ls1 := [some (.ref 65), some (.int bo), some (.int f), some (.int t), some (.int more), some (.int c), some (.int dd), some (.int be), some (.int a), some (.int x27)]) (st1 := []) rfl rfl fun x38 e39 => ?_
            have e39t : x38.toInt = 0 := by rw [e39]; rfl
            refine aw_step (f1 := (195, [some (.ref 65), some (.int bo), some (.int f), some (.int t), some (.int x38), some (.int c), some (.int dd), some (.int be), some (.int a), some (.int x27)], [])) (w1 := w24) rfl rfl ?_
            refine aw_step (f1 := (198, [some (.ref 65), some (.int bo), some (.int f), some (.int t), some (.int x38), some (.int c), some (.int (dd + Int32.ofInt 1)), some (.int be), some (.int a), some (.int x27)], [])) (w1 := w24) rfl rfl ?_
            obtain ⟨x40, x40e⟩ : ∃ z, z = (dd + Int32.ofInt 1) := ⟨_, rfl⟩
            have x40t : x40.toInt = dd.toInt + (1) := by rw [x40e]; exact n_add (y := Int32.ofInt (1)) (by show _ ≤ _ + (1 : Int); omega) (by show _ + (1 : Int) ≤ _; omega)
            rw [← x40e]
            refine aw_step (f1 := (48, [some (.ref 65), some (.int bo), some (.int f), some (.int t), some (.int x38), some (.int c), some (.int x40), some (.int be), some (.int a), some (.int x27)], [])) (w1 := w24) rfl rfl ?_
            exact K w24 x38 x40 _ _ _ (by omega) J25 (by omega) (by omega)
          · --
            refine s_i (pc1 := 189) (ls1 := [some (.ref 65), some (.int bo), some (.int f), some (.int t), some (.int more), some (.int c), some (.int dd), some (.int be), some (.int a), some (.int x27)]) (st1 := []) rfl rfl fun x41 e42 => ?_
            have e42t : x41.toInt = 1 := by rw [e42]; rfl
            refine aw_step (f1 := (193, [some (.ref 65), some (.int bo), some (.int f), some (.int t), some (.int more), some (.int c), some (.int dd), some (.int be), some (.int a), some (.int x27)], [(.int x41)])) (w1 := w24) rfl rfl ?_
            refine aw_step (f1 := (195, [some (.ref 65), some (.int bo), some (.int f), some (.int t), some (.int x41), some (.int c), some (.int dd), some (.int be), some (.int a), some (.int x27)], [])) (w1 := w24) rfl rfl ?_
            refine aw_step (f1 := (198, [some (.ref 65), some (.int bo), some (.int f), some (.int t), some (.int x41), some (.int c), some (.int (dd + Int32.ofInt 1)), some (.int be), some (.int a), some (.int x27)], [])) (w1 := w24) rfl rfl ?_
            obtain ⟨x43, x43e⟩ : ∃ z, z = (dd + Int32.ofInt 1) := ⟨_, rfl⟩
            have x43t : x43.toInt = dd.toInt + (1) := by rw [x43e]; exact n_add (y := Int32.ofInt (1)) (by show _ ≤ _ + (1 : Int); omega) (by show _ + (1 : Int) ≤ _; omega)
            rw [← x43e]
            refine aw_step (f1 := (48, [some (.ref 65), some (.int bo), some (.int f), some (.int t), some (.int x41), some (.int c), some (.int x43), some (.int be), some (.int a), some (.int x27)], [])) (w1 := w24) rfl rfl ?_
            exact K w24 x41 x43 _ _ _ (by omega) J25 (by omega) (by omega)
    · --
      refine s_i (pc1 := 167) (ls1 := [some (.ref 65), some (.int bo), some (.int f), some (.int t), some (.int more), some (.int c), some (.int dd), some (.int be), some (.int a), o9]) (st1 := []) rfl rfl fun x44 e45 => ?_
      have e45t : x44.toInt = 1 := by rw [e45]; rfl
      refine aw_step (f1 := (171, [some (.ref 65), some (.int bo), some (.int f), some (.int t), some (.int more), some (.int c), some (.int dd), some (.int be), some (.int a), o9], [(.int x44)])) (w1 := w24) rfl rfl ?_
      refine aw_step (f1 := (173, [some (.ref 65), some (.int bo), some (.int f), some (.int t), some (.int more), some (.int c), some (.int dd), some (.int be), some (.int a), some (.int x44)], [])) (w1 := w24) rfl rfl ?_
      refine aw_step (f1 := (175, [some (.ref 65), some (.int bo), some (.int f), some (.int t), some (.int more), some (.int c), some (.int dd), some (.int be), some (.int a), some (.int x44)], [(.int more)])) (w1 := w24) rfl rfl ?_
      refine s_if 188 178 rfl rfl rfl (fun (h46 : ¬ more.toInt = 0) => ?_) (fun (h46 : ¬ (¬ more.toInt = 0)) => ?_)
      · --
        refine s_i (pc1 := 189) (ls1 := [some (.ref 65), some (.int bo), some (.int f), some (.int t), some (.int more), some (.int c), some (.int dd), some (.int be), some (.int a), some (.int x44)]) (st1 := []) rfl rfl fun x47 e48 => ?_
        have e48t : x47.toInt = 1 := by rw [e48]; rfl
        refine aw_step (f1 := (193, [some (.ref 65), some (.int bo), some (.int f), some (.int t), some (.int more), some (.int c), some (.int dd), some (.int be), some (.int a), some (.int x44)], [(.int x47)])) (w1 := w24) rfl rfl ?_
        refine aw_step (f1 := (195, [some (.ref 65), some (.int bo), some (.int f), some (.int t), some (.int x47), some (.int c), some (.int dd), some (.int be), some (.int a), some (.int x44)], [])) (w1 := w24) rfl rfl ?_
        refine aw_step (f1 := (198, [some (.ref 65), some (.int bo), some (.int f), some (.int t), some (.int x47), some (.int c), some (.int (dd + Int32.ofInt 1)), some (.int be), some (.int a), some (.int x44)], [])) (w1 := w24) rfl rfl ?_
        obtain ⟨x49, x49e⟩ : ∃ z, z = (dd + Int32.ofInt 1) := ⟨_, rfl⟩
        have x49t : x49.toInt = dd.toInt + (1) := by rw [x49e]; exact n_add (y := Int32.ofInt (1)) (by show _ ≤ _ + (1 : Int); omega) (by show _ + (1 : Int) ≤ _; omega)
        rw [← x49e]
        refine aw_step (f1 := (48, [some (.ref 65), some (.int bo), some (.int f), some (.int t), some (.int x47), some (.int c), some (.int x49), some (.int be), some (.int a), some (.int x44)], [])) (w1 := w24) rfl rfl ?_
        exact K w24 x47 x49 _ _ _ (by omega) J25 (by omega) (by omega)
      · --
        refine aw_step (f1 := (180, [some (.ref 65), some (.int bo), some (.int f), some (.int t), some (.int more), some (.int c), some (.int dd), some (.int be), some (.int a), some (.int x44)], [(.int a)])) (w1 := w24) rfl rfl ?_
        refine s_if 188 183 rfl rfl rfl (fun (h50 : ¬ a.toInt = 0) => ?_) (fun (h50 : ¬ (¬ a.toInt = 0)) => ?_)
        · --
          refine s_i (pc1 := 189) (ls1 := [some (.ref 65), some (.int bo), some (.int f), some (.int t), some (.int more), some (.int c), some (.int dd), some (.int be), some (.int a), some (.int x44)]) (st1 := []) rfl rfl fun x51 e52 => ?_
          have e52t : x51.toInt = 1 := by rw [e52]; rfl
          refine aw_step (f1 := (193, [some (.ref 65), some (.int bo), some (.int f), some (.int t), some (.int more), some (.int c), some (.int dd), some (.int be), some (.int a), some (.int x44)], [(.int x51)])) (w1 := w24) rfl rfl ?_
          refine aw_step (f1 := (195, [some (.ref 65), some (.int bo), some (.int f), some (.int t), some (.int x51), some (.int c), some (.int dd), some (.int be), some (.int a), some (.int x44)], [])) (w1 := w24) rfl rfl ?_
          refine aw_step (f1 := (198, [some (.ref 65), some (.int bo), some (.int f), some (.int t), some (.int x51), some (.int c), some (.int (dd + Int32.ofInt 1)), some (.int be), some (.int a), some (.int x44)], [])) (w1 := w24) rfl rfl ?_
          obtain ⟨x53, x53e⟩ : ∃ z, z = (dd + Int32.ofInt 1) := ⟨_, rfl⟩
          have x53t : x53.toInt = dd.toInt + (1) := by rw [x53e]; exact n_add (y := Int32.ofInt (1)) (by show _ ≤ _ + (1 : Int); omega) (by show _ + (1 : Int) ≤ _; omega)
          rw [← x53e]
          refine aw_step (f1 := (48, [some (.ref 65), some (.int bo), some (.int f), some (.int t), some (.int x51), some (.int c), some (.int x53), some (.int be), some (.int a), some (.int x44)], [])) (w1 := w24) rfl rfl ?_
          exact K w24 x51 x53 _ _ _ (by omega) J25 (by omega) (by omega)
        · --
          refine aw_step (f1 := (185, [some (.ref 65), some (.int bo), some (.int f), some (.int t), some (.int more), some (.int c), some (.int dd), some (.int be), some (.int a), some (.int x44)], [(.int x44)])) (w1 := w24) rfl rfl ?_
          refine s_if 192 188 rfl rfl rfl (fun (h54 : x44.toInt = 0) => ?_) (fun (h54 : ¬ (x44.toInt = 0)) => ?_)
          · --
            refine s_i (pc1 := 193) (ls1 := [some (.ref 65), some (.int bo), some (.int f), some (.int t), some (.int more), some (.int c), some (.int dd), some (.int be), some (.int a), some (.int x44)]) (st1 := []) rfl rfl fun x55 e56 => ?_
            have e56t : x55.toInt = 0 := by rw [e56]; rfl
            refine aw_step (f1 := (195, [some (.ref 65), some (.int bo), some (.int f), some (.int t), some (.int x55), some (.int c), some (.int dd), some (.int be), some (.int a), some (.int x44)], [])) (w1 := w24) rfl rfl ?_
            refine aw_step (f1 := (198, [some (.ref 65), some (.int bo), some (.int f), some (.int t), some (.int x55), some (.int c), some (.int (dd + Int32.ofInt 1)), some (.int be), some (.int a), some (.int x44)], [])) (w1 := w24) rfl rfl ?_
            obtain ⟨x57, x57e⟩ : ∃ z, z = (dd + Int32.ofInt 1) := ⟨_, rfl⟩
            have x57t : x57.toInt = dd.toInt + (1) := by rw [x57e]; exact n_add (y := Int32.ofInt (1)) (by show _ ≤ _ + (1 : Int); omega) (by show _ + (1 : Int) ≤ _; omega)
            rw [← x57e]
            refine aw_step (f1 := (48, [some (.ref 65), some (.int bo), some (.int f), some (.int t), some (.int x55), some (.int c), some (.int x57), some (.int be), some (.int a), some (.int x44)], [])) (w1 := w24) rfl rfl ?_
            exact K w24 x55 x57 _ _ _ (by omega) J25 (by omega) (by omega)
          · --
            refine s_i (pc1 := 189) (ls1 := [some (.ref 65), some (.int bo), some (.int f), some (.int t), some (.int more), some (.int c), some (.int dd), some (.int be), some (.int a), some (.int x44)]) (st1 := []) rfl rfl fun x58 e59 => ?_
            have e59t : x58.toInt = 1 := by rw [e59]; rfl
            refine aw_step (f1 := (193, [some (.ref 65), some (.int bo), some (.int f), some (.int t), some (.int more), some (.int c), some (.int dd), some (.int be), some (.int a), some (.int x44)], [(.int x58)])) (w1 := w24) rfl rfl ?_
            refine aw_step (f1 := (195, [some (.ref 65), some (.int bo), some (.int f), some (.int t), some (.int x58), some (.int c), some (.int dd), some (.int be), some (.int a), some (.int x44)], [])) (w1 := w24) rfl rfl ?_
            refine aw_step (f1 := (198, [some (.ref 65), some (.int bo), some (.int f), some (.int t), some (.int x58), some (.int c), some (.int (dd + Int32.ofInt 1)), some (.int be), some (.int a), some (.int x44)], [])) (w1 := w24) rfl rfl ?_
            obtain ⟨x60, x60e⟩ : ∃ z, z = (dd + Int32.ofInt 1) := ⟨_, rfl⟩
            have x60t : x60.toInt = dd.toInt + (1) := by rw [x60e]; exact n_add (y := Int32.ofInt (1)) (by show _ ≤ _ + (1 : Int); omega) (by show _ + (1 : Int) ≤ _; omega)
            rw [← x60e]
            refine aw_step (f1 := (48, [some (.ref 65), some (.int bo), some (.int f), some (.int t), some (.int x58), some (.int c), some (.int x60), some (.int be), some (.int a), some (.int x44)], [])) (w1 := w24) rfl rfl ?_
            exact K w24 x58 x60 _ _ _ (by omega) J25 (by omega) (by omega)
theorem q_timeB {d : Nat} {Q : Option Value → am_W → Prop} {w00 : am_W} {z s0 : Int} (bo f t more c dd be : Int32) (o8 o9 : Option Value) (hbe : be.toInt = 0 ∨ be.toInt = 1) (hc : 0 ≤ c.toInt ∧ c.toInt < z) (hd : 0 ≤ dd.toInt ∧ dd.toInt < z) (K : ∀ (w : am_W) (m2 d2 : Int32) (o7 o8 o9 : Option Value), d2.toInt = dd.toInt + 1 → ab_J ab_TT ab_sets ab_WR w00 w → szM w = z → ((m2.toInt = 1 ∧ sC w < s0) ∨ (m2.toInt = 0 ∧ sC w ≤ s0)) → aw none (d + 3) 151 Q (48, [some (.ref 65), some (.int bo), some (.int f), some (.int t), some (.int m2), some (.int c), some (.int d2), o7, o8, o9], []) w) (w : am_W) (J : ab_J ab_TT ab_sets ab_WR w00 w) (zz : szM w = z) (R : (more.toInt = 1 ∧ sC w < s0) ∨ (more.toInt = 0 ∧ sC w ≤ s0)) : aw none (d + 3) 151 Q (97, [some (.ref 65), some (.int bo), some (.int f), some (.int t), some (.int more), some (.int c), some (.int dd), some (.int be), o8, o9], []) w := by
  have sz := szM_in J.1
  refine aw_step (f1 := (98, [some (.ref 65), some (.int bo), some (.int f), some (.int t), some (.int more), some (.int c), some (.int dd), some (.int be), o8, o9], [(.ref 65)])) (w1 := w) rfl rfl ?_
  refine s_gr 74 J 101 rfl rfl rfl rfl rfl rfl ?_
  refine aw_step (f1 := (103, [some (.ref 65), some (.int bo), some (.int f), some (.int t), some (.int more), some (.int c), some (.int dd), some (.int be), o8, o9], [(.int c), (.ref 74)])) (w1 := w) rfl rfl ?_
  refine s_la J 104 rfl rfl rfl (by omega) (by omega) fun y1 y1a y1b y1f => ?_
  refine aw_step (f1 := (106, [some (.ref 65), some (.int bo), some (.int f), some (.int t), some (.int more), some (.int c), some (.int dd), some (.int be), o8, o9], [(.int dd), (.long y1)])) (w1 := w) rfl rfl ?_
  refine s_cs (z := 110) (as := [(.long y1), (.int dd)]) (st1 := []) 109 rfl rfl rfl rfl rfl rfl (Nat.le_of_ble_eq_true rfl) (Nat.le_of_ble_eq_true rfl) (Nat.le_of_ble_eq_true rfl) (q_has y1 dd (by omega) (by omega)) ?_
  rintro _ _ ⟨rfl, x2, rfl, x2t⟩
  refine ⟨rfl, ?_⟩
  show aw none _ 151 _ (109, [some (.ref 65), some (.int bo), some (.int f), some (.int t), some (.int more), some (.int c), some (.int dd), some (.int be), o8, o9], [(.int x2)]) w
  have x2l := bt_le (n64 y1) dd.toInt.toNat
  refine s_if 137 112 rfl rfl rfl (fun (h3 : x2.toInt = 0) => ?_) (fun (h3 : ¬ (x2.toInt = 0)) => ?_)
  · --
    refine s_i (pc1 := 138) (ls1 := [some (.ref 65), some (.int bo), some (.int f), some (.int t), some (.int more), some (.int c), some (.int dd), some (.int be), o8, o9]) (st1 := []) rfl rfl fun x4 e5 => ?_
    have e5t : x4.toInt = 0 := by rw [e5]; rfl
    refine aw_step (f1 := (140, [some (.ref 65), some (.int bo), some (.int f), some (.int t), some (.int more), some (.int c), some (.int dd), some (.int be), some (.int x4), o9], [])) (w1 := w) rfl rfl ?_
    exact q_timeC bo f t more c dd be x4 _ hbe hc hd K w J (by omega) (by omega)
  · --
    refine aw_step (f1 := (113, [some (.ref 65), some (.int bo), some (.int f), some (.int t), some (.int more), some (.int c), some (.int dd), some (.int be), o8, o9], [(.ref 65)])) (w1 := w) rfl rfl ?_
    refine aw_step (f1 := (115, [some (.ref 65), some (.int bo), some (.int f), some (.int t), some (.int more), some (.int c), some (.int dd), some (.int be), o8, o9], [(.int dd), (.ref 65)])) (w1 := w) rfl rfl ?_
    refine aw_step (f1 := (116, [some (.ref 65), some (.int bo), some (.int f), some (.int t), some (.int more), some (.int c), some (.int dd), some (.int be), o8, o9], [(.ref 65), (.int dd), (.ref 65)])) (w1 := w) rfl rfl ?_
    refine s_gr 78 J 119 rfl rfl rfl rfl rfl rfl ?_
    refine aw_step (f1 := (121, [some (.ref 65), some (.int bo), some (.int f), some (.int t), some (.int more), some (.int c), some (.int dd), some (.int be), o8, o9], [(.int c), (.ref 78), (.int dd), (.ref 65)])) (w1 := w) rfl rfl ?_
    refine s_ia J 122 rfl rfl rfl rfl (by omega) (by omega) fun x6 x6a x6b x6f => ?_
    refine aw_step (f1 := (123, [some (.ref 65), some (.int bo), some (.int f), some (.int t), some (.int more), some (.int c), some (.int dd), some (.int be), o8, o9], [(.ref 65), (.int x6), (.int dd), (.ref 65)])) (w1 := w) rfl rfl ?_
    refine s_gi J 126 rfl rfl rfl rfl rfl rfl fun x7 x7a x7b x7f => ?_
    refine s_i (pc1 := 127) (ls1 := [some (.ref 65), some (.int bo), some (.int f), some (.int t), some (.int more), some (.int c), some (.int dd), some (.int be), o8, o9]) (st1 := [(.int dd), (.ref 65)]) rfl rfl fun x8 e9 => ?_
    have e9 : x8 = x6 + x7 := e9
    have e9t : x8.toInt = x6.toInt + x7.toInt := by rw [e9]; exact n_add (by omega) (by omega)
    refine s_cv (z := 147) (p := 65) (as := [(.int dd), (.int x8)]) (st1 := []) J 130 rfl rfl rfl rfl rfl rfl rfl rfl (Nat.le_of_ble_eq_true rfl) (Nat.le_of_ble_eq_true rfl) (q_cheapen dd x8 ⟨by omega, by omega⟩ (by omega) J.1) ?_
    rintro _ w11 ⟨x10, rfl, J12c, w11o, w11p⟩
    have J12 := J.trans J12c
    refine ⟨am_len2 J J12c, ?_⟩
    show aw none _ 151 _ (130, [some (.ref 65), some (.int bo), some (.int f), some (.int t), some (.int more), some (.int c), some (.int dd), some (.int be), o8, o9], [(.int x10)]) w11
    have w11s := w11p.s (by omega)
    have w11z := w11o.sz (by decide)
    refine s_if 137 133 rfl rfl rfl (fun (h13 : x10.toInt = 0) => ?_) (fun (h13 : ¬ (x10.toInt = 0)) => ?_)
    · --
      refine s_i (pc1 := 138) (ls1 := [some (.ref 65), some (.int bo), some (.int f), some (.int t), some (.int more), some (.int c), some (.int dd), some (.int be), o8, o9]) (st1 := []) rfl rfl fun x14 e15 => ?_
      have e15t : x14.toInt = 0 := by rw [e15]; rfl
      refine aw_step (f1 := (140, [some (.ref 65), some (.int bo), some (.int f), some (.int t), some (.int more), some (.int c), some (.int dd), some (.int be), some (.int x14), o9], [])) (w1 := w11) rfl rfl ?_
      exact q_timeC bo f t more c dd be x14 _ hbe hc hd K w11 J12 (by omega) (by omega)
    · --
      refine s_i (pc1 := 134) (ls1 := [some (.ref 65), some (.int bo), some (.int f), some (.int t), some (.int more), some (.int c), some (.int dd), some (.int be), o8, o9]) (st1 := []) rfl rfl fun x16 e17 => ?_
      have e17t : x16.toInt = 1 := by rw [e17]; rfl
      refine aw_step (f1 := (138, [some (.ref 65), some (.int bo), some (.int f), some (.int t), some (.int more), some (.int c), some (.int dd), some (.int be), o8, o9], [(.int x16)])) (w1 := w11) rfl rfl ?_
      refine aw_step (f1 := (140, [some (.ref 65), some (.int bo), some (.int f), some (.int t), some (.int more), some (.int c), some (.int dd), some (.int be), some (.int x16), o9], [])) (w1 := w11) rfl rfl ?_
      exact q_timeC bo f t more c dd be x16 _ hbe hc hd K w11 J12 (by omega) (by omega)
theorem q_timeI {d : Nat} {Q : Option Value → am_W → Prop} {w00 : am_W} {z s0 : Int} (bo f t c : Int32) (hc : 0 ≤ c.toInt ∧ c.toInt < z) (K : ∀ (w : am_W) (more dd : Int32) (o7 o8 o9 : Option Value), ab_J ab_TT ab_sets ab_WR w00 w → szM w = z → ((more.toInt = 1 ∧ sC w < s0) ∨ (more.toInt = 0 ∧ sC w ≤ s0)) → aw none (d + 3) 151 Q (201, [some (.ref 65), some (.int bo), some (.int f), some (.int t), some (.int more), some (.int c), some (.int dd), o7, o8, o9], []) w) : ∀ (m : Nat) (w : am_W) (more dd : Int32) (o7 o8 o9 : Option Value), (z - dd.toInt).toNat < m → 0 ≤ dd.toInt → dd.toInt ≤ z → ab_J ab_TT ab_sets ab_WR w00 w → szM w = z → ((more.toInt = 1 ∧ sC w < s0) ∨ (more.toInt = 0 ∧ sC w ≤ s0)) → aw none (d + 3) 151 Q (48, [some (.ref 65), some (.int bo), some (.int f), some (.int t), some (.int more), some (.int c), some (.int dd), o7, o8, o9], []) w := by
  intro m
  induction m with
  | zero => intro w more dd o7 o8 o9 p; omega
  | succ m ih =>
    intro w more dd o7 o8 o9 p1 p2 p3 J zz R
    have sz := szM_in J.1
    refine aw_step (f1 := (50, [some (.ref 65), some (.int bo), some (.int f), some (.int t), some (.int more), some (.int c), some (.int dd), o7, o8, o9], [(.int dd)])) (w1 := w) rfl rfl ?_
    refine aw_step (f1 := (51, [some (.ref 65), some (.int bo), some (.int f), some (.int t), some (.int more), some (.int c), some (.int dd), o7, o8, o9], [(.ref 65), (.int dd)])) (w1 := w) rfl rfl ?_
    refine s_cv (z := 113) (p := 65) (as := []) (st1 := [(.int dd)]) J 54 rfl rfl rfl rfl rfl rfl rfl rfl (Nat.le_of_ble_eq_true rfl) (Nat.le_of_ble_eq_true rfl) (q_cells J.1) ?_
    rintro _ _ ⟨rfl, x1, rfl, x1t⟩
    refine ⟨rfl, ?_⟩
    show aw none _ 151 _ (54, [some (.ref 65), some (.int bo), some (.int f), some (.int t), some (.int more), some (.int c), some (.int dd), o7, o8, o9], [(.int x1), (.int dd)]) w
    have x1s := szM_in J.1
    refine s_ic 201 57 rfl rfl rfl (fun (h2 : x1.toInt ≤ dd.toInt) => ?_) (fun (h2 : ¬ (x1.toInt ≤ dd.toInt)) => ?_)
    · --
      exact K w more dd _ _ _ J zz R
    · --
      refine aw_step (f1 := (58, [some (.ref 65), some (.int bo), some (.int f), some (.int t), some (.int more), some (.int c), some (.int dd), o7, o8, o9], [(.ref 65)])) (w1 := w) rfl rfl ?_
      refine s_gr 78 J 61 rfl rfl rfl rfl rfl rfl ?_
      refine aw_step (f1 := (63, [some (.ref 65), some (.int bo), some (.int f), some (.int t), some (.int more), some (.int c), some (.int dd), o7, o8, o9], [(.int c), (.ref 78)])) (w1 := w) rfl rfl ?_
      refine s_ia J 64 rfl rfl rfl rfl (by omega) (by omega) fun x3 x3a x3b x3f => ?_
      refine s_i (pc1 := 66) (ls1 := [some (.ref 65), some (.int bo), some (.int f), some (.int t), some (.int more), some (.int c), some (.int dd), o7, o8, o9]) (st1 := [(.int x3)]) rfl rfl fun x4 e5 => ?_
      have e5t : x4.toInt = 100000 := by rw [e5]; rfl
      refine s_ic 201 69 rfl rfl rfl (fun (h6 : x4.toInt ≤ x3.toInt) => ?_) (fun (h6 : ¬ (x4.toInt ≤ x3.toInt)) => ?_)
      · --
        exact K w more dd _ _ _ J zz R
      · --
        refine aw_step (f1 := (70, [some (.ref 65), some (.int bo), some (.int f), some (.int t), some (.int more), some (.int c), some (.int dd), o7, o8, o9], [(.ref 65)])) (w1 := w) rfl rfl ?_
        refine aw_step (f1 := (72, [some (.ref 65), some (.int bo), some (.int f), some (.int t), some (.int more), some (.int c), some (.int dd), o7, o8, o9], [(.int dd), (.ref 65)])) (w1 := w) rfl rfl ?_
        refine s_cv (z := 115) (p := 65) (as := [(.int dd)]) (st1 := []) J 75 rfl rfl rfl rfl rfl rfl rfl rfl (Nat.le_of_ble_eq_true rfl) (Nat.le_of_ble_eq_true rfl) (q_isLand dd J.1) ?_
        rintro _ _ ⟨rfl, x7, rfl, x7t⟩
        refine ⟨rfl, ?_⟩
        show aw none _ 151 _ (75, [some (.ref 65), some (.int bo), some (.int f), some (.int t), some (.int more), some (.int c), some (.int dd), o7, o8, o9], [(.int x7)]) w
        have x7s := szM_in J.1
        refine s_if 94 78 rfl rfl rfl (fun (h8 : x7.toInt = 0) => ?_) (fun (h8 : ¬ (x7.toInt = 0)) => ?_)
        · --
          refine s_i (pc1 := 95) (ls1 := [some (.ref 65), some (.int bo), some (.int f), some (.int t), some (.int more), some (.int c), some (.int dd), o7, o8, o9]) (st1 := []) rfl rfl fun x9 e10 => ?_
          have e10t : x9.toInt = 0 := by rw [e10]; rfl
          refine aw_step (f1 := (97, [some (.ref 65), some (.int bo), some (.int f), some (.int t), some (.int more), some (.int c), some (.int dd), some (.int x9), o8, o9], [])) (w1 := w) rfl rfl ?_
          exact q_timeB bo f t more c dd x9 _ _ (by omega) hc ⟨by omega, by omega⟩ (fun w2 m2 d2 o7 o8 o9 h1 J2 z2 R2 => ih w2 m2 d2 o7 o8 o9 (by omega) (by omega) (by omega) J2 z2 R2) w J (by omega) R
        · --
          refine aw_step (f1 := (79, [some (.ref 65), some (.int bo), some (.int f), some (.int t), some (.int more), some (.int c), some (.int dd), o7, o8, o9], [(.ref 65)])) (w1 := w) rfl rfl ?_
          refine aw_step (f1 := (81, [some (.ref 65), some (.int bo), some (.int f), some (.int t), some (.int more), some (.int c), some (.int dd), o7, o8, o9], [(.int c), (.ref 65)])) (w1 := w) rfl rfl ?_
          refine aw_step (f1 := (83, [some (.ref 65), some (.int bo), some (.int f), some (.int t), some (.int more), some (.int c), some (.int dd), o7, o8, o9], [(.int dd), (.int c), (.ref 65)])) (w1 := w) rfl rfl ?_
          refine s_cv (z := 130) (p := 65) (as := [(.int c), (.int dd)]) (st1 := []) J 86 rfl rfl rfl rfl rfl rfl rfl rfl (Nat.le_of_ble_eq_true rfl) (Nat.le_of_ble_eq_true rfl) (q_square c dd ⟨by omega, by omega⟩ ⟨by omega, by omega⟩ J.1) ?_
          rintro _ _ ⟨rfl, x11, rfl, x11t⟩
          refine ⟨rfl, ?_⟩
          show aw none _ 151 _ (86, [some (.ref 65), some (.int bo), some (.int f), some (.int t), some (.int more), some (.int c), some (.int dd), o7, o8, o9], [(.int x11)]) w
          refine s_i (pc1 := 87) (ls1 := [some (.ref 65), some (.int bo), some (.int f), some (.int t), some (.int more), some (.int c), some (.int dd), o7, o8, o9]) (st1 := [(.int x11)]) rfl rfl fun x12 e13 => ?_
          have e13t : x12.toInt = 1 := by rw [e13]; rfl
          refine s_ic 94 90 rfl rfl rfl (fun (h14 : ¬ x11.toInt = x12.toInt) => ?_) (fun (h14 : ¬ (¬ x11.toInt = x12.toInt)) => ?_)
          · --
            refine s_i (pc1 := 95) (ls1 := [some (.ref 65), some (.int bo), some (.int f), some (.int t), some (.int more), some (.int c), some (.int dd), o7, o8, o9]) (st1 := []) rfl rfl fun x15 e16 => ?_
            have e16t : x15.toInt = 0 := by rw [e16]; rfl
            refine aw_step (f1 := (97, [some (.ref 65), some (.int bo), some (.int f), some (.int t), some (.int more), some (.int c), some (.int dd), some (.int x15), o8, o9], [])) (w1 := w) rfl rfl ?_
            exact q_timeB bo f t more c dd x15 _ _ (by omega) hc ⟨by omega, by omega⟩ (fun w2 m2 d2 o7 o8 o9 h1 J2 z2 R2 => ih w2 m2 d2 o7 o8 o9 (by omega) (by omega) (by omega) J2 z2 R2) w J (by omega) R
          · --
            refine s_i (pc1 := 91) (ls1 := [some (.ref 65), some (.int bo), some (.int f), some (.int t), some (.int more), some (.int c), some (.int dd), o7, o8, o9]) (st1 := []) rfl rfl fun x17 e18 => ?_
            have e18t : x17.toInt = 1 := by rw [e18]; rfl
            refine aw_step (f1 := (95, [some (.ref 65), some (.int bo), some (.int f), some (.int t), some (.int more), some (.int c), some (.int dd), o7, o8, o9], [(.int x17)])) (w1 := w) rfl rfl ?_
            refine aw_step (f1 := (97, [some (.ref 65), some (.int bo), some (.int f), some (.int t), some (.int more), some (.int c), some (.int dd), some (.int x17), o8, o9], [])) (w1 := w) rfl rfl ?_
            exact q_timeB bo f t more c dd x17 _ _ (by omega) hc ⟨by omega, by omega⟩ (fun w2 m2 d2 o7 o8 o9 h1 J2 z2 R2 => ih w2 m2 d2 o7 o8 o9 (by omega) (by omega) (by omega) J2 z2 R2) w J (by omega) R
theorem q_timeJ {d : Nat} {Q : Option Value → am_W → Prop} {w00 : am_W} {z s0 : Int} (bo f t : Int32) (K : ∀ (w : am_W) (more c : Int32) (o6 o7 o8 o9 : Option Value), ab_J ab_TT ab_sets ab_WR w00 w → szM w = z → ((more.toInt = 1 ∧ sC w < s0) ∨ (more.toInt = 0 ∧ sC w ≤ s0)) → aw none (d + 3) 151 Q (207, [some (.ref 65), some (.int bo), some (.int f), some (.int t), some (.int more), some (.int c), o6, o7, o8, o9], []) w) : ∀ (m : Nat) (w : am_W) (more c : Int32) (o6 o7 o8 o9 : Option Value), (z - c.toInt).toNat < m → 0 ≤ c.toInt → c.toInt ≤ z → ab_J ab_TT ab_sets ab_WR w00 w → szM w = z → ((more.toInt = 1 ∧ sC w < s0) ∨ (more.toInt = 0 ∧ sC w ≤ s0)) → aw none (d + 3) 151 Q (36, [some (.ref 65), some (.int bo), some (.int f), some (.int t), some (.int more), some (.int c), o6, o7, o8, o9], []) w := by
  intro m
  induction m with
  | zero => intro w more c o6 o7 o8 o9 p; omega
  | succ m ih =>
    intro w more c o6 o7 o8 o9 p1 p2 p3 J zz R
    have sz := szM_in J.1
    refine aw_step (f1 := (38, [some (.ref 65), some (.int bo), some (.int f), some (.int t), some (.int more), some (.int c), o6, o7, o8, o9], [(.int c)])) (w1 := w) rfl rfl ?_
    refine aw_step (f1 := (39, [some (.ref 65), some (.int bo), some (.int f), some (.int t), some (.int more), some (.int c), o6, o7, o8, o9], [(.ref 65), (.int c)])) (w1 := w) rfl rfl ?_
    refine s_cv (z := 113) (p := 65) (as := []) (st1 := [(.int c)]) J 42 rfl rfl rfl rfl rfl rfl rfl rfl (Nat.le_of_ble_eq_true rfl) (Nat.le_of_ble_eq_true rfl) (q_cells J.1) ?_
    rintro _ _ ⟨rfl, x1, rfl, x1t⟩
    refine ⟨rfl, ?_⟩
    show aw none _ 151 _ (42, [some (.ref 65), some (.int bo), some (.int f), some (.int t), some (.int more), some (.int c), o6, o7, o8, o9], [(.int x1), (.int c)]) w
    have x1s := szM_in J.1
    refine s_ic 207 45 rfl rfl rfl (fun (h2 : x1.toInt ≤ c.toInt) => ?_) (fun (h2 : ¬ (x1.toInt ≤ c.toInt)) => ?_)
    · --
      exact K w more c _ _ _ _ J zz R
    · --
      refine s_i (pc1 := 46) (ls1 := [some (.ref 65), some (.int bo), some (.int f), some (.int t), some (.int more), some (.int c), o6, o7, o8, o9]) (st1 := []) rfl rfl fun x3 e4 => ?_
      have e4t : x3.toInt = 0 := by rw [e4]; rfl
      refine aw_step (f1 := (48, [some (.ref 65), some (.int bo), some (.int f), some (.int t), some (.int more), some (.int c), some (.int x3), o7, o8, o9], [])) (w1 := w) rfl rfl ?_
      refine q_timeI bo f t c ⟨by omega, by omega⟩ (fun wq mq dq o7q o8q o9q Jq zq Rq => ?_) (z.toNat + 1) w more x3 _ _ _ (by omega) (by omega) (by omega) J zz R
      refine aw_step (f1 := (204, [some (.ref 65), some (.int bo), some (.int f), some (.int t), some (.int mq), some (.int (c + Int32.ofInt 1)), some (.int dq), o7q, o8q, o9q], [])) (w1 := wq) rfl rfl ?_
      obtain ⟨zx1, zx1e⟩ : ∃ z, z = (c + Int32.ofInt 1) := ⟨_, rfl⟩
      have zx1t : zx1.toInt = c.toInt + (1) := by rw [zx1e]; exact n_add (y := Int32.ofInt (1)) (by show _ ≤ _ + (1 : Int); omega) (by show _ + (1 : Int) ≤ _; omega)
      rw [← zx1e]
      refine aw_step (f1 := (36, [some (.ref 65), some (.int bo), some (.int f), some (.int t), some (.int mq), some (.int zx1), some (.int dq), o7q, o8q, o9q], [])) (w1 := wq) rfl rfl ?_
      exact ih wq mq zx1 _ _ _ _ (by omega) (by omega) (by omega) Jq zq Rq
theorem q_timeO {d : Nat} {w00 : am_W} (bo f t : Int32) (ht : 0 ≤ t.toInt ∧ t.toInt < 36) : ∀ (m : Nat) (w : am_W) (more : Int32) (o5 o6 o7 o8 o9 : Option Value), ((sC w).toNat + more.toInt.toNat) < m → (more.toInt = 0 ∨ more.toInt = 1) → ab_J ab_TT ab_sets ab_WR w00 w → aw none (d + 3) 151 (QS w00) (25, [some (.ref 65), some (.int bo), some (.int f), some (.int t), some (.int more), o5, o6, o7, o8, o9], []) w := by
  intro m
  induction m with
  | zero => intro w more o5 o6 o7 o8 o9 p; omega
  | succ m ih =>
    intro w more o5 o6 o7 o8 o9 p1 p2 J
    have sz := szM_in J.1
    refine aw_step (f1 := (27, [some (.ref 65), some (.int bo), some (.int f), some (.int t), some (.int more), o5, o6, o7, o8, o9], [(.int more)])) (w1 := w) rfl rfl ?_
    refine s_if 210 30 rfl rfl rfl (fun (h1 : more.toInt = 0) => ?_) (fun (h1 : ¬ (more.toInt = 0)) => ?_)
    · --
      refine aw_step (f1 := (211, [some (.ref 65), some (.int bo), some (.int f), some (.int t), some (.int more), o5, o6, o7, o8, o9], [(.ref 65)])) (w1 := w) rfl rfl ?_
      refine s_gr 78 J 214 rfl rfl rfl rfl rfl rfl ?_
      refine aw_step (f1 := (215, [some (.ref 65), some (.int bo), some (.int f), some (.int t), some (.int more), o5, o6, o7, o8, o9], [(.int t), (.ref 78)])) (w1 := w) rfl rfl ?_
      refine s_ia J 216 rfl rfl rfl rfl (by omega) (by omega) fun x2 x2a x2b x2f => ?_
      refine s_i (pc1 := 218) (ls1 := [some (.ref 65), some (.int bo), some (.int f), some (.int t), some (.int more), o5, o6, o7, o8, o9]) (st1 := [(.int x2)]) rfl rfl fun x3 e4 => ?_
      have e4t : x3.toInt = 100000 := by rw [e4]; rfl
      refine s_ic 226 221 rfl rfl rfl (fun (h5 : ¬ x2.toInt = x3.toInt) => ?_) (fun (h5 : ¬ (¬ x2.toInt = x3.toInt)) => ?_)
      · --
        refine aw_step (f1 := (227, [some (.ref 65), some (.int bo), some (.int f), some (.int t), some (.int more), o5, o6, o7, o8, o9], [(.ref 65)])) (w1 := w) rfl rfl ?_
        refine s_gr 78 J 230 rfl rfl rfl rfl rfl rfl ?_
        refine aw_step (f1 := (231, [some (.ref 65), some (.int bo), some (.int f), some (.int t), some (.int more), o5, o6, o7, o8, o9], [(.int t), (.ref 78)])) (w1 := w) rfl rfl ?_
        refine s_ia J 232 rfl rfl rfl rfl (by omega) (by omega) fun x6 x6a x6b x6f => ?_
        refine aw_ret (v := some (.int x6)) rfl rfl ?_
        exact ⟨J, x6, rfl⟩
      · --
        refine s_i (pc1 := 223) (ls1 := [some (.ref 65), some (.int bo), some (.int f), some (.int t), some (.int more), o5, o6, o7, o8, o9]) (st1 := []) rfl rfl fun x7 e8 => ?_
        have e8t : x7.toInt = -6 := by rw [e8]; rfl
        refine aw_step (f1 := (232, [some (.ref 65), some (.int bo), some (.int f), some (.int t), some (.int more), o5, o6, o7, o8, o9], [(.int x7)])) (w1 := w) rfl rfl ?_
        refine aw_ret (v := some (.int x7)) rfl rfl ?_
        exact ⟨J, x7, rfl⟩
    · --
      refine s_i (pc1 := 31) (ls1 := [some (.ref 65), some (.int bo), some (.int f), some (.int t), some (.int more), o5, o6, o7, o8, o9]) (st1 := []) rfl rfl fun x9 e10 => ?_
      have e10t : x9.toInt = 0 := by rw [e10]; rfl
      refine aw_step (f1 := (33, [some (.ref 65), some (.int bo), some (.int f), some (.int t), some (.int x9), o5, o6, o7, o8, o9], [])) (w1 := w) rfl rfl ?_
      refine s_i (pc1 := 34) (ls1 := [some (.ref 65), some (.int bo), some (.int f), some (.int t), some (.int x9), o5, o6, o7, o8, o9]) (st1 := []) rfl rfl fun x11 e12 => ?_
      have e12t : x11.toInt = 0 := by rw [e12]; rfl
      refine aw_step (f1 := (36, [some (.ref 65), some (.int bo), some (.int f), some (.int t), some (.int x9), some (.int x11), o6, o7, o8, o9], [])) (w1 := w) rfl rfl ?_
      have s1 := sC_0 J.1
      refine q_timeJ (z := szM w) (s0 := sC w) bo f t (fun wq mq cq o6q o7q o8q o9q Jq zq Rq => ?_) ((szM w).toNat + 1) w x9 x11 _ _ _ _ (by omega) (by omega) (by omega) J rfl (by omega)
      have s2 := sC_0 Jq.1
      refine aw_step (f1 := (25, [some (.ref 65), some (.int bo), some (.int f), some (.int t), some (.int mq), some (.int cq), o6q, o7q, o8q, o9q], [])) (w1 := wq) rfl rfl ?_
      exact ih wq mq _ _ _ _ _ (by omega) (by omega) Jq
theorem q_time {d : Nat} {w : am_W} (bo f t : Int32) (I : ab_inv ab_TT ab_sets w) : aw none (d + 6) 151 (QS w) (0, am_entry 151 [.ref 65, .int bo, .int f, .int t], []) w := by
  have J : ab_J ab_TT ab_sets ab_WR w w := ⟨I, ab_fr.rf⟩
  have sz := szM_in I
  show aw none (d + 6) 151 _ (0, [some (.ref 65), some (.int bo), some (.int f), some (.int t), none, none, none, none, none, none], []) w
  refine aw_step (f1 := (1, [some (.ref 65), some (.int bo), some (.int f), some (.int t), none, none, none, none, none, none], [(.ref 65)])) (w1 := w) rfl rfl ?_
  refine aw_step (f1 := (2, [some (.ref 65), some (.int bo), some (.int f), some (.int t), none, none, none, none, none, none], [(.int bo), (.ref 65)])) (w1 := w) rfl rfl ?_
  refine aw_step (f1 := (3, [some (.ref 65), some (.int bo), some (.int f), some (.int t), none, none, none, none, none, none], [(.int f), (.int bo), (.ref 65)])) (w1 := w) rfl rfl ?_
  refine aw_step (f1 := (4, [some (.ref 65), some (.int bo), some (.int f), some (.int t), none, none, none, none, none, none], [(.int t), (.int f), (.int bo), (.ref 65)])) (w1 := w) rfl rfl ?_
  refine s_cv (z := 143) (p := 65) (as := [(.int bo), (.int f), (.int t)]) (st1 := []) J 7 rfl rfl rfl rfl rfl rfl rfl rfl (Nat.le_of_ble_eq_true rfl) (Nat.le_of_ble_eq_true rfl) (q_isAsked bo f t J.1) ?_
  rintro _ _ ⟨rfl, x1, rfl, x1t⟩
  refine ⟨rfl, ?_⟩
  show aw none _ 151 _ (7, [some (.ref 65), some (.int bo), some (.int f), some (.int t), none, none, none, none, none, none], [(.int x1)]) w
  have x1s := szM_in J.1
  refine s_if 12 10 rfl rfl rfl (fun (h2 : ¬ x1.toInt = 0) => ?_) (fun (h2 : ¬ (¬ x1.toInt = 0)) => ?_)
  · --
    refine aw_step (f1 := (13, [some (.ref 65), some (.int bo), some (.int f), some (.int t), none, none, none, none, none, none], [(.ref 65)])) (w1 := w) rfl rfl ?_
    refine aw_step (f1 := (14, [some (.ref 65), some (.int bo), some (.int f), some (.int t), none, none, none, none, none, none], [(.int bo), (.ref 65)])) (w1 := w) rfl rfl ?_
    refine s_cv (z := 133) (p := 65) (as := [(.int bo)]) (st1 := []) J 17 rfl rfl rfl rfl rfl rfl rfl rfl (Nat.le_of_ble_eq_true rfl) (Nat.le_of_ble_eq_true rfl) (q_putOn bo ⟨by omega, by omega⟩ J.1) ?_
    rintro _ w3 ⟨rfl, J4c, w3o, w3p⟩
    have J4 := J.trans J4c
    refine ⟨am_len2 J J4c, ?_⟩
    show aw none _ 151 _ (17, [some (.ref 65), some (.int bo), some (.int f), some (.int t), none, none, none, none, none, none], []) w3
    have zo := w3o.sz (by decide)
    refine aw_step (f1 := (18, [some (.ref 65), some (.int bo), some (.int f), some (.int t), none, none, none, none, none, none], [(.ref 65)])) (w1 := w3) rfl rfl ?_
    refine aw_step (f1 := (19, [some (.ref 65), some (.int bo), some (.int f), some (.int t), none, none, none, none, none, none], [(.int f), (.ref 65)])) (w1 := w3) rfl rfl ?_
    refine s_cv (z := 146) (p := 65) (as := [(.int f)]) (st1 := []) J4 22 rfl rfl rfl rfl rfl rfl rfl rfl (Nat.le_of_ble_eq_true rfl) (Nat.le_of_ble_eq_true rfl) (q_beginCosts f ⟨by omega, by omega⟩ J4.1) ?_
    rintro _ w5 ⟨rfl, J6c, w5o, w5p⟩
    have J6 := J4.trans J6c
    refine ⟨am_len2 J4 J6c, ?_⟩
    show aw none _ 151 _ (22, [some (.ref 65), some (.int bo), some (.int f), some (.int t), none, none, none, none, none, none], []) w5
    refine s_i (pc1 := 23) (ls1 := [some (.ref 65), some (.int bo), some (.int f), some (.int t), none, none, none, none, none, none]) (st1 := []) rfl rfl fun x7 e8 => ?_
    have e8t : x7.toInt = 1 := by rw [e8]; rfl
    refine aw_step (f1 := (25, [some (.ref 65), some (.int bo), some (.int f), some (.int t), some (.int x7), none, none, none, none, none], [])) (w1 := w5) rfl rfl ?_
    exact q_timeO bo f t ⟨by omega, by omega⟩ ((sC w5).toNat + 2) w5 x7 _ _ _ _ _ (by omega) (by omega) J6
  · --
    refine s_i (pc1 := 11) (ls1 := [some (.ref 65), some (.int bo), some (.int f), some (.int t), none, none, none, none, none, none]) (st1 := []) rfl rfl fun x9 e10 => ?_
    have e10t : x9.toInt = -1 := by rw [e10]; rfl
    refine aw_ret (v := some (.int x9)) rfl rfl ?_
    exact ⟨J, x9, rfl⟩
