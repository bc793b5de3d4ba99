/-! ===== costs: worn, time ===== -/
/-- the sum of the first n -/
def sm (r : Nat → Int) : Nat → Int
  | 0 => 0
  | n + 1 => sm r n + r n
theorem sm_le {r r' : Nat → Int} : ∀ {n : Nat}, (∀ j, j < n → r' j ≤ r j) → sm r' n ≤ sm r n
  | 0, _ => Int.le_refl _
  | n + 1, h => by
    have h1 := sm_le (n := n) (fun j hj => h j (by omega))
    have h2 := h n (by omega)
    unfold sm
    omega
theorem sm_lt {r r' : Nat → Int} {k : Nat} (hk : r' k < r k) : ∀ {n : Nat}, (∀ j, j < n → r' j ≤ r j) → k < n → sm r' n < sm r n
  | 0, _, q => by omega
  | n + 1, h, q => by
    have h2 := h n (by omega)
    unfold sm
    by_cases e : k = n
    · subst e
      have h1 := sm_le (n := k) (fun j hj => h j (by omega))
      omega
    · have h1 := sm_lt hk (n := n) (fun j hj => h j (by omega)) (by omega)
      omega
theorem sm_0 {r : Nat → Int} : ∀ {n : Nat}, (∀ j, j < n → 0 ≤ r j) → 0 ≤ sm r n
  | 0, _ => Int.le_refl _
  | n + 1, h => by
    have h1 := sm_0 (n := n) (fun j hj => h j (by omega))
    have h2 := h n (by omega)
    unfold sm
    omega
def sC (w : am_W) : Int := sm (rI w 78) 72
theorem sC_0 {w : am_W} (I : ab_inv ab_TT ab_sets w) : 0 ≤ sC w := sm_0 fun j hj => (rI_in I (p := 78) rfl hj).1
theorem only.sCe {ps : List Nat} {w w1 : am_W} (h : only ps w w1) (hp : 78 ∉ ps) : sC w1 = sC w := by
  have e : rI w1 78 = rI w 78 := by funext j; exact h.rIe hp
  show sm (rI w1 78) 72 = sm (rI w 78) 72
  rw [e]
def chP (w w1 : am_W) (k : Nat) (is b : Int) : Prop := (b = 1 ∧ is < rI w 78 k ∧ rI w1 78 k = is ∧ ∀ j, j ≠ k → rI w1 78 j = rI w 78 j) ∨ (b = 0 ∧ rI w 78 k ≤ is ∧ ∀ j, rI w1 78 j = rI w 78 j)
theorem chP.s {w w1 : am_W} {k : Nat} {is b : Int} (h : chP w w1 k is b) (hk : k < 72) : (b = 1 ∧ sC w1 < sC w) ∨ (b = 0 ∧ sC w1 ≤ sC w) := by
  rcases h with ⟨h1, h2, h3, h4⟩ | ⟨h1, h2, h3⟩
  · refine Or.inl ⟨h1, sm_lt (k := k) (by omega) (fun j hj => ?_) hk⟩
    by_cases e : j = k
    · subst e; omega
    · rw [h4 j e]; exact Int.le_refl _
  · exact Or.inr ⟨h1, sm_le fun j _ => by rw [h3 j]; exact Int.le_refl _⟩
theorem q_wearOf {d : Nat} {w : am_W} (s : Int32) : aw none d 135 (fun r w1 => w = w1 ∧ ∃ b : Int32, r = some (.int b) ∧ ((b.toInt = 2 ∧ s.toInt = 94) ∨ (b.toInt = 1 ∧ s.toInt ≠ 94))) (0, am_entry 135 [.int s], []) w := by
  show aw none d 135 _ (0, [some (.int s)], []) w
  refine aw_step (f1 := (1, [some (.int s)], [(.int s)])) (w1 := w) rfl rfl ?_
  refine s_i (pc1 := 3) (ls1 := [some (.int s)]) (st1 := [(.int s)]) rfl rfl fun x1 e2 => ?_
  have e2t : x1.toInt = 94 := by rw [e2]; rfl
  refine s_ic 10 6 rfl rfl rfl (fun (h3 : ¬ s.toInt = x1.toInt) => ?_) (fun (h3 : ¬ (¬ s.toInt = x1.toInt)) => ?_)
  · --
    refine s_i (pc1 := 11) (ls1 := [some (.int s)]) (st1 := []) rfl rfl fun x4 e5 => ?_
    have e5t : x4.toInt = 1 := by rw [e5]; rfl
    refine aw_ret (v := some (.int x4)) rfl rfl ?_
    exact ⟨rfl, x4, rfl, by omega⟩
  · --
    refine s_i (pc1 := 7) (ls1 := [some (.int s)]) (st1 := []) rfl rfl fun x6 e7 => ?_
    have e7t : x6.toInt = 2 := by rw [e7]; rfl
    refine aw_step (f1 := (11, [some (.int s)], [(.int x6)])) (w1 := w) rfl rfl ?_
    refine aw_ret (v := some (.int x6)) rfl rfl ?_
    exact ⟨rfl, x6, rfl, by omega⟩
theorem q_cheapen {d : Nat} {w : am_W} (k is : Int32) (hk : 0 ≤ k.toInt ∧ k.toInt < 72) (h0 : 0 ≤ is.toInt) (I : ab_inv ab_TT ab_sets w) : aw none d 147 (fun r w1 => ∃ b : Int32, r = some (.int b) ∧ ab_J ab_TT ab_sets ab_WR w w1 ∧ only [78] w w1 ∧ chP w w1 k.toInt.toNat is.toInt b.toInt) (0, am_entry 147 [.ref 65, .int k, .int is], []) w := by
  have J : ab_J ab_TT ab_sets ab_WR w w := ⟨I, ab_fr.rf⟩
  show aw none d 147 _ (0, [some (.ref 65), some (.int k), some (.int is), none], []) w
  refine aw_step (f1 := (1, [some (.ref 65), some (.int k), some (.int is), none], [(.int is)])) (w1 := w) rfl rfl ?_
  refine aw_step (f1 := (2, [some (.ref 65), some (.int k), some (.int is), none], [(.ref 65), (.int is)])) (w1 := w) rfl rfl ?_
  refine s_gr 78 J 5 rfl rfl rfl rfl rfl rfl ?_
  refine aw_step (f1 := (6, [some (.ref 65), some (.int k), some (.int is), none], [(.int k), (.ref 78), (.int is)])) (w1 := w) rfl rfl ?_
  refine s_ia J 7 rfl rfl rfl rfl (by omega) (by omega) fun x1 x1a x1b x1f => ?_
  have hr := rI_of x1f
  refine s_ic 14 10 rfl rfl rfl (fun (h2 : x1.toInt ≤ is.toInt) => ?_) (fun (h2 : ¬ (x1.toInt ≤ is.toInt)) => ?_)
  · --
    refine s_i (pc1 := 15) (ls1 := [some (.ref 65), some (.int k), some (.int is), none]) (st1 := []) rfl rfl fun x3 e4 => ?_
    have e4t : x3.toInt = 0 := by rw [e4]; rfl
    refine aw_step (f1 := (16, [some (.ref 65), some (.int k), some (.int is), some (.int x3)], [])) (w1 := w) rfl rfl ?_
    refine aw_step (f1 := (17, [some (.ref 65), some (.int k), some (.int is), some (.int x3)], [(.ref 65)])) (w1 := w) rfl rfl ?_
    refine s_gr 78 J 20 rfl rfl rfl rfl rfl rfl ?_
    refine aw_step (f1 := (21, [some (.ref 65), some (.int k), some (.int is), some (.int x3)], [(.int k), (.ref 78)])) (w1 := w) rfl rfl ?_
    refine aw_step (f1 := (22, [some (.ref 65), some (.int k), some (.int is), some (.int x3)], [(.int x3), (.int k), (.ref 78)])) (w1 := w) rfl rfl ?_
    refine s_if 29 25 rfl rfl rfl (fun (h5 : x3.toInt = 0) => ?_) (fun (h5 : ¬ (x3.toInt = 0)) => ?_)
    · --
      refine aw_step (f1 := (30, [some (.ref 65), some (.int k), some (.int is), some (.int x3)], [(.ref 65), (.int k), (.ref 78)])) (w1 := w) rfl rfl ?_
      refine s_gr 78 J 33 rfl rfl rfl rfl rfl rfl ?_
      refine aw_step (f1 := (34, [some (.ref 65), some (.int k), some (.int is), some (.int x3)], [(.int k), (.ref 78), (.int k), (.ref 78)])) (w1 := w) rfl rfl ?_
      refine s_ia J 35 rfl rfl rfl rfl (by omega) (by omega) fun x6 x6a x6b x6f => ?_
      --
      refine s_is J 36 rfl rfl rfl rfl (by omega) (by omega) (by omega) (by omega) fun w7 J8 w7e => ?_
      refine aw_step (f1 := (37, [some (.ref 65), some (.int k), some (.int is), some (.int x3)], [(.int x3)])) (w1 := w7) rfl rfl ?_
      refine aw_ret (v := some (.int x3)) rfl (am_retz (by omega)) ?_
      have so := rI_st J.1 (p := 78) (j := k.toInt.toNat) rfl (by omega) w7e
      have hr2 := rI_of x6f
      exact ⟨x3, rfl, J8, so.1, Or.inr ⟨by omega, by omega, fun j => by
        by_cases e : j = k.toInt.toNat
        · rw [e, so.2.1]; omega
        · exact so.2.2 j e⟩⟩
    · --
      refine aw_step (f1 := (26, [some (.ref 65), some (.int k), some (.int is), some (.int x3)], [(.int is), (.int k), (.ref 78)])) (w1 := w) rfl rfl ?_
      refine aw_step (f1 := (35, [some (.ref 65), some (.int k), some (.int is), some (.int x3)], [(.int is), (.int k), (.ref 78)])) (w1 := w) rfl rfl ?_
      --
      refine s_is J 36 rfl rfl rfl rfl (by omega) (by omega) (by omega) (by omega) fun w9 J10 w9e => ?_
      refine aw_step (f1 := (37, [some (.ref 65), some (.int k), some (.int is), some (.int x3)], [(.int x3)])) (w1 := w9) rfl rfl ?_
      refine aw_ret (v := some (.int x3)) rfl (am_retz (by omega)) ?_
      have so := rI_st J.1 (p := 78) (j := k.toInt.toNat) rfl (by omega) w9e
      exact ⟨x3, rfl, J10, so.1, Or.inl ⟨by omega, by omega, so.2.1, so.2.2⟩⟩
  · --
    refine s_i (pc1 := 11) (ls1 := [some (.ref 65), some (.int k), some (.int is), none]) (st1 := []) rfl rfl fun x11 e12 => ?_
    have e12t : x11.toInt = 1 := by rw [e12]; rfl
    refine aw_step (f1 := (15, [some (.ref 65), some (.int k), some (.int is), none], [(.int x11)])) (w1 := w) rfl rfl ?_
    refine aw_step (f1 := (16, [some (.ref 65), some (.int k), some (.int is), some (.int x11)], [])) (w1 := w) rfl rfl ?_
    refine aw_step (f1 := (17, [some (.ref 65), some (.int k), some (.int is), some (.int x11)], [(.ref 65)])) (w1 := w) rfl rfl ?_
    refine s_gr 78 J 20 rfl rfl rfl rfl rfl rfl ?_
    refine aw_step (f1 := (21, [some (.ref 65), some (.int k), some (.int is), some (.int x11)], [(.int k), (.ref 78)])) (w1 := w) rfl rfl ?_
    refine aw_step (f1 := (22, [some (.ref 65), some (.int k), some (.int is), some (.int x11)], [(.int x11), (.int k), (.ref 78)])) (w1 := w) rfl rfl ?_
    refine s_if 29 25 rfl rfl rfl (fun (h13 : x11.toInt = 0) => ?_) (fun (h13 : ¬ (x11.toInt = 0)) => ?_)
    · --
      refine aw_step (f1 := (30, [some (.ref 65), some (.int k), some (.int is), some (.int x11)], [(.ref 65), (.int k), (.ref 78)])) (w1 := w) rfl rfl ?_
      refine s_gr 78 J 33 rfl rfl rfl rfl rfl rfl ?_
      refine aw_step (f1 := (34, [some (.ref 65), some (.int k), some (.int is), some (.int x11)], [(.int k), (.ref 78), (.int k), (.ref 78)])) (w1 := w) rfl rfl ?_
      refine s_ia J 35 rfl rfl rfl rfl (by omega) (by omega) fun x14 x14a x14b x14f => ?_
      --
      refine s_is J 36 rfl rfl rfl rfl (by omega) (by omega) (by omega) (by omega) fun w15 J16 w15e => ?_
      refine aw_step (f1 := (37, [some (.ref 65), some (.int k), some (.int is), some (.int x11)], [(.int x11)])) (w1 := w15) rfl rfl ?_
      refine aw_ret (v := some (.int x11)) rfl (am_retz (by omega)) ?_
      have so := rI_st J.1 (p := 78) (j := k.toInt.toNat) rfl (by omega) w15e
      have hr2 := rI_of x14f
      exact ⟨x11, rfl, J16, so.1, Or.inr ⟨by omega, by omega, fun j => by
        by_cases e : j = k.toInt.toNat
        · rw [e, so.2.1]; omega
        · exact so.2.2 j e⟩⟩
    · --
      refine aw_step (f1 := (26, [some (.ref 65), some (.int k), some (.int is), some (.int x11)], [(.int is), (.int k), (.ref 78)])) (w1 := w) rfl rfl ?_
      refine aw_step (f1 := (35, [some (.ref 65), some (.int k), some (.int is), some (.int x11)], [(.int is), (.int k), (.ref 78)])) (w1 := w) rfl rfl ?_
      --
      refine s_is J 36 rfl rfl rfl rfl (by omega) (by omega) (by omega) (by omega) fun w17 J18 w17e => ?_
      refine aw_step (f1 := (37, [some (.ref 65), some (.int k), some (.int is), some (.int x11)], [(.int x11)])) (w1 := w17) rfl rfl ?_
      refine aw_ret (v := some (.int x11)) rfl (am_retz (by omega)) ?_
      have so := rI_st J.1 (p := 78) (j := k.toInt.toNat) rfl (by omega) w17e
      exact ⟨x11, rfl, J18, so.1, Or.inl ⟨by omega, by omega, so.2.1, so.2.2⟩⟩
theorem q_beginCostsL {d : Nat} {wb : am_W} (f : Int32) (hf : 0 ≤ f.toInt ∧ f.toInt < 36) : ∀ (m : Nat) (w : am_W) (i : Int32), (72 - i.toInt).toNat < m → 0 ≤ i.toInt → i.toInt ≤ 72 → ab_J ab_TT ab_sets ab_WR wb w → only [78] wb w → (∀ j : Nat, (j : Int) < i.toInt → rI w 78 j = 100000) → aw none d 146 (fun r w1 => r = none ∧ ab_J ab_TT ab_sets ab_WR wb w1 ∧ only [78] wb w1 ∧ rI w1 78 f.toInt.toNat = 0 ∧ ∀ j : Nat, j < 72 → j ≠ f.toInt.toNat → rI w1 78 j = 100000) (2, [some (.ref 65), some (.int f), some (.int i)], []) w := by
  intro m
  induction m with
  | zero => intro w i p; omega
  | succ m ih =>
    intro w i p1 p2 p3 J O F
    refine aw_step (f1 := (3, [some (.ref 65), some (.int f), some (.int i)], [(.int i)])) (w1 := w) rfl rfl ?_
    refine s_i (pc1 := 5) (ls1 := [some (.ref 65), some (.int f), some (.int i)]) (st1 := [(.int i)]) rfl rfl fun x1 e2 => ?_
    have e2t : x1.toInt = 72 := by rw [e2]; rfl
    refine s_ic 22 8 rfl rfl rfl (fun (h3 : x1.toInt ≤ i.toInt) => ?_) (fun (h3 : ¬ (x1.toInt ≤ i.toInt)) => ?_)
    · --
      refine aw_step (f1 := (23, [some (.ref 65), some (.int f), some (.int i)], [(.ref 65)])) (w1 := w) rfl rfl ?_
      refine s_gr 78 J 26 rfl rfl rfl rfl rfl rfl ?_
      refine aw_step (f1 := (27, [some (.ref 65), some (.int f), some (.int i)], [(.int f), (.ref 78)])) (w1 := w) rfl rfl ?_
      refine s_i (pc1 := 28) (ls1 := [some (.ref 65), some (.int f), some (.int i)]) (st1 := [(.int f), (.ref 78)]) rfl rfl fun x4 e5 => ?_
      have e5t : x4.toInt = 0 := by rw [e5]; rfl
      refine s_is J 29 rfl rfl rfl rfl (by omega) (by omega) (by omega) (by omega) fun w6 J7 w6e => ?_
      refine aw_ret (v := none) rfl rfl ?_
      have so := rI_st J.1 (p := 78) (j := f.toInt.toNat) rfl (by omega) w6e
      exact ⟨rfl, J7, O.trans so.1, by rw [so.2.1]; omega, fun j hj e => by rw [so.2.2 j e]; exact F j (by omega)⟩
    · --
      refine aw_step (f1 := (9, [some (.ref 65), some (.int f), some (.int i)], [(.ref 65)])) (w1 := w) rfl rfl ?_
      refine s_gr 78 J 12 rfl rfl rfl rfl rfl rfl ?_
      refine aw_step (f1 := (13, [some (.ref 65), some (.int f), some (.int i)], [(.int i), (.ref 78)])) (w1 := w) rfl rfl ?_
      refine s_i (pc1 := 15) (ls1 := [some (.ref 65), some (.int f), some (.int i)]) (st1 := [(.int i), (.ref 78)]) rfl rfl fun x8 e9 => ?_
      have e9t : x8.toInt = 100000 := by rw [e9]; rfl
      refine s_is J 16 rfl rfl rfl rfl (by omega) (by omega) (by omega) (by omega) fun w10 J11 w10e => ?_
      refine aw_step (f1 := (19, [some (.ref 65), some (.int f), some (.int (i + Int32.ofInt 1))], [])) (w1 := w10) rfl rfl ?_
      obtain ⟨x12, x12e⟩ : ∃ z, z = (i + Int32.ofInt 1) := ⟨_, rfl⟩
      have x12t : x12.toInt = i.toInt + (1) := by rw [x12e]; exact n_add (y := Int32.ofInt (1)) (by show _ ≤ _ + (1 : Int); omega) (by show _ + (1 : Int) ≤ _; omega)
      rw [← x12e]
      refine aw_step (f1 := (2, [some (.ref 65), some (.int f), some (.int x12)], [])) (w1 := w10) rfl rfl ?_
      have so := rI_st J.1 (p := 78) (j := i.toInt.toNat) rfl (by omega) w10e
      exact ih w10 x12 (by omega) (by omega) (by omega) J11 (O.trans so.1) (fun j hj => by
        by_cases e : j = i.toInt.toNat
        · rw [e, so.2.1]; omega
        · rw [so.2.2 j e]; exact F j (by omega))
theorem q_beginCosts {d : Nat} {w : am_W} (f : Int32) (hf : 0 ≤ f.toInt ∧ f.toInt < 36) (I : ab_inv ab_TT ab_sets w) : aw none d 146 (fun r w1 => r = none ∧ ab_J ab_TT ab_sets ab_WR w w1 ∧ only [78] w w1 ∧ rI w1 78 f.toInt.toNat = 0 ∧ ∀ j : Nat, j < 72 → j ≠ f.toInt.toNat → rI w1 78 j = 100000) (0, am_entry 146 [.ref 65, .int f], []) w := by
  have J : ab_J ab_TT ab_sets ab_WR w w := ⟨I, ab_fr.rf⟩
  show aw none d 146 _ (0, [some (.ref 65), some (.int f), none], []) w
  refine s_i (pc1 := 1) (ls1 := [some (.ref 65), some (.int f), none]) (st1 := []) rfl rfl fun x1 e2 => ?_
  have e2t : x1.toInt = 0 := by rw [e2]; rfl
  refine aw_step (f1 := (2, [some (.ref 65), some (.int f), some (.int x1)], [])) (w1 := w) rfl rfl ?_
  exact q_beginCostsL f hf 73 w x1 (by omega) (by omega) (by omega) J only.rf (fun j hj => by omega)
theorem q_wornI {d : Nat} {Q : Option Value → am_W → Prop} {w00 : am_W} {z s0 : Int} (bo f t c : Int32) (hc : 0 ≤ c.toInt ∧ c.toInt < z) (K : ∀ (w : am_W) (more dd : Int32) (o7 : Option Value), ab_J ab_TT ab_sets ab_WR w00 w → szM w = z → ((more.toInt = 1 ∧ sC w < s0) ∨ (more.toInt = 0 ∧ sC w ≤ s0)) → aw none (d + 3) 148 Q (141, [some (.ref 65), some (.int bo), some (.int f), some (.int t), some (.int more), some (.int c), some (.int dd), o7], []) w) : ∀ (m : Nat) (w : am_W) (more dd : Int32) (o7 : Option Value), (z - dd.toInt).toNat < m → 0 ≤ dd.toInt → dd.toInt ≤ z → ab_J ab_TT ab_sets ab_WR w00 w → szM w = z → ((more.toInt = 1 ∧ sC w < s0) ∨ (more.toInt = 0 ∧ sC w ≤ s0)) → aw none (d + 3) 148 Q (48, [some (.ref 65), some (.int bo), some (.int f), some (.int t), some (.int more), some (.int c), some (.int dd), o7], []) w := by
  intro m
  induction m with
  | zero => intro w more dd o7 p; omega
  | succ m ih =>
    intro w more dd o7 p1 p2 p3 J zz R
    have sz := szM_in J.1
    refine aw_step (f1 := (50, [some (.ref 65), some (.int bo), some (.int f), some (.int t), some (.int more), some (.int c), some (.int dd), o7], [(.int dd)])) (w1 := w) rfl rfl ?_
    refine aw_step (f1 := (51, [some (.ref 65), some (.int bo), some (.int f), some (.int t), some (.int more), some (.int c), some (.int dd), o7], [(.ref 65), (.int dd)])) (w1 := w) rfl rfl ?_
    refine s_cv (z := 113) (p := 65) (as := []) (st1 := [(.int dd)]) J 54 rfl rfl rfl rfl rfl rfl rfl rfl (Nat.le_of_ble_eq_true rfl) (Nat.le_of_ble_eq_true rfl) (q_cells J.1) ?_
    rintro _ _ ⟨rfl, x1, rfl, x1t⟩
    refine ⟨rfl, ?_⟩
    show aw none _ 148 _ (54, [some (.ref 65), some (.int bo), some (.int f), some (.int t), some (.int more), some (.int c), some (.int dd), o7], [(.int x1), (.int dd)]) w
    have x1s := szM_in J.1
    refine s_ic 141 57 rfl rfl rfl (fun (h2 : x1.toInt ≤ dd.toInt) => ?_) (fun (h2 : ¬ (x1.toInt ≤ dd.toInt)) => ?_)
    · --
      exact K w more dd _ J zz R
    · --
      refine aw_step (f1 := (58, [some (.ref 65), some (.int bo), some (.int f), some (.int t), some (.int more), some (.int c), some (.int dd), o7], [(.ref 65)])) (w1 := w) rfl rfl ?_
      refine s_gr 78 J 61 rfl rfl rfl rfl rfl rfl ?_
      refine aw_step (f1 := (63, [some (.ref 65), some (.int bo), some (.int f), some (.int t), some (.int more), some (.int c), some (.int dd), o7], [(.int c), (.ref 78)])) (w1 := w) rfl rfl ?_
      refine s_ia J 64 rfl rfl rfl rfl (by omega) (by omega) fun x3 x3a x3b x3f => ?_
      refine s_i (pc1 := 66) (ls1 := [some (.ref 65), some (.int bo), some (.int f), some (.int t), some (.int more), some (.int c), some (.int dd), o7]) (st1 := [(.int x3)]) rfl rfl fun x4 e5 => ?_
      have e5t : x4.toInt = 100000 := by rw [e5]; rfl
      refine s_ic 141 69 rfl rfl rfl (fun (h6 : x4.toInt ≤ x3.toInt) => ?_) (fun (h6 : ¬ (x4.toInt ≤ x3.toInt)) => ?_)
      · --
        exact K w more dd _ J zz R
      · --
        refine aw_step (f1 := (70, [some (.ref 65), some (.int bo), some (.int f), some (.int t), some (.int more), some (.int c), some (.int dd), o7], [(.ref 65)])) (w1 := w) rfl rfl ?_
        refine s_gr 74 J 73 rfl rfl rfl rfl rfl rfl ?_
        refine aw_step (f1 := (75, [some (.ref 65), some (.int bo), some (.int f), some (.int t), some (.int more), some (.int c), some (.int dd), o7], [(.int c), (.ref 74)])) (w1 := w) rfl rfl ?_
        refine s_la J 76 rfl rfl rfl (by omega) (by omega) fun y7 y7a y7b y7f => ?_
        refine aw_step (f1 := (78, [some (.ref 65), some (.int bo), some (.int f), some (.int t), some (.int more), some (.int c), some (.int dd), o7], [(.int dd), (.long y7)])) (w1 := w) rfl rfl ?_
        refine s_cs (z := 110) (as := [(.long y7), (.int dd)]) (st1 := []) 81 rfl rfl rfl rfl rfl rfl (Nat.le_of_ble_eq_true rfl) (Nat.le_of_ble_eq_true rfl) (Nat.le_of_ble_eq_true rfl) (q_has y7 dd (by omega) (by omega)) ?_
        rintro _ _ ⟨rfl, x8, rfl, x8t⟩
        refine ⟨rfl, ?_⟩
        show aw none _ 148 _ (81, [some (.ref 65), some (.int bo), some (.int f), some (.int t), some (.int more), some (.int c), some (.int dd), o7], [(.int x8)]) w
        have x8l := bt_le (n64 y7) dd.toInt.toNat
        refine s_if 115 84 rfl rfl rfl (fun (h9 : x8.toInt = 0) => ?_) (fun (h9 : ¬ (x8.toInt = 0)) => ?_)
        · --
          refine s_i (pc1 := 116) (ls1 := [some (.ref 65), some (.int bo), some (.int f), some (.int t), some (.int more), some (.int c), some (.int dd), o7]) (st1 := []) rfl rfl fun x10 e11 => ?_
          have e11t : x10.toInt = 0 := by rw [e11]; rfl
          refine aw_step (f1 := (118, [some (.ref 65), some (.int bo), some (.int f), some (.int t), some (.int more), some (.int c), some (.int dd), some (.int x10)], [])) (w1 := w) rfl rfl ?_
          refine aw_step (f1 := (120, [some (.ref 65), some (.int bo), some (.int f), some (.int t), some (.int more), some (.int c), some (.int dd), some (.int x10)], [(.int more)])) (w1 := w) rfl rfl ?_
          refine s_if 128 123 rfl rfl rfl (fun (h12 : ¬ more.toInt = 0) => ?_) (fun (h12 : ¬ (¬ more.toInt = 0)) => ?_)
          · --
            refine s_i (pc1 := 129) (ls1 := [some (.ref 65), some (.int bo), some (.int f), some (.int t), some (.int more), some (.int c), some (.int dd), some (.int x10)]) (st1 := []) rfl rfl fun x13 e14 => ?_
            have e14t : x13.toInt = 1 := by rw [e14]; rfl
            refine aw_step (f1 := (133, [some (.ref 65), some (.int bo), some (.int f), some (.int t), some (.int more), some (.int c), some (.int dd), some (.int x10)], [(.int x13)])) (w1 := w) rfl rfl ?_
            refine aw_step (f1 := (135, [some (.ref 65), some (.int bo), some (.int f), some (.int t), some (.int x13), some (.int c), some (.int dd), some (.int x10)], [])) (w1 := w) rfl rfl ?_
            refine aw_step (f1 := (138, [some (.ref 65), some (.int bo), some (.int f), some (.int t), some (.int x13), some (.int c), some (.int (dd + Int32.ofInt 1)), some (.int x10)], [])) (w1 := w) rfl rfl ?_
            obtain ⟨x15, x15e⟩ : ∃ z, z = (dd + Int32.ofInt 1) := ⟨_, rfl⟩
            have x15t : x15.toInt = dd.toInt + (1) := by rw [x15e]; exact n_add (y := Int32.ofInt (1)) (by show _ ≤ _ + (1 : Int); omega) (by show _ + (1 : Int) ≤ _; omega)
            rw [← x15e]
            refine aw_step (f1 := (48, [some (.ref 65), some (.int bo), some (.int f), some (.int t), some (.int x13), some (.int c), some (.int x15), some (.int x10)], [])) (w1 := w) rfl rfl ?_
            exact ih w x13 x15 _ (by omega) (by omega) (by omega) J (by omega) (by omega)
          · --
            refine aw_step (f1 := (125, [some (.ref 65), some (.int bo), some (.int f), some (.int t), some (.int more), some (.int c), some (.int dd), some (.int x10)], [(.int x10)])) (w1 := w) rfl rfl ?_
            refine s_if 132 128 rfl rfl rfl (fun (h16 : x10.toInt = 0) => ?_) (fun (h16 : ¬ (x10.toInt = 0)) => ?_)
            · --
              refine s_i (pc1 := 133) (ls1 := [some (.ref 65), some (.int bo), some (.int f), some (.int t), some (.int more), some (.int c), some (.int dd), some (.int x10)]) (st1 := []) rfl rfl fun x17 e18 => ?_
              have e18t : x17.toInt = 0 := by rw [e18]; rfl
              refine aw_step (f1 := (135, [some (.ref 65), some (.int bo), some (.int f), some (.int t), some (.int x17), some (.int c), some (.int dd), some (.int x10)], [])) (w1 := w) rfl rfl ?_
              refine aw_step (f1 := (138, [some (.ref 65), some (.int bo), some (.int f), some (.int t), some (.int x17), some (.int c), some (.int (dd + Int32.ofInt 1)), some (.int x10)], [])) (w1 := w) rfl rfl ?_
              obtain ⟨x19, x19e⟩ : ∃ z, z = (dd + Int32.ofInt 1) := ⟨_, rfl⟩
              have x19t : x19.toInt = dd.toInt + (1) := by rw [x19e]; exact n_add (y := Int32.ofInt (1)) (by show _ ≤ _ + (1 : Int); omega) (by show _ + (1 : Int) ≤ _; omega)
              rw [← x19e]
              refine aw_step (f1 := (48, [some (.ref 65), some (.int bo), some (.int f), some (.int t), some (.int x17), some (.int c), some (.int x19), some (.int x10)], [])) (w1 := w) rfl rfl ?_
              exact ih w x17 x19 _ (by omega) (by omega) (by omega) J (by omega) (by omega)
            · --
              refine s_i (pc1 := 129) (ls1 := [some (.ref 65), some (.int bo), some (.int f), some (.int t), some (.int more), some (.int c), some (.int dd), some (.int x10)]) (st1 := []) rfl rfl fun x20 e21 => ?_
              have e21t : x20.toInt = 1 := by rw [e21]; rfl
              refine aw_step (f1 := (133, [some (.ref 65), some (.int bo), some (.int f), some (.int t), some (.int more), some (.int c), some (.int dd), some (.int x10)], [(.int x20)])) (w1 := w) rfl rfl ?_
              refine aw_step (f1 := (135, [some (.ref 65), some (.int bo), some (.int f), some (.int t), some (.int x20), some (.int c), some (.int dd), some (.int x10)], [])) (w1 := w) rfl rfl ?_
              refine aw_step (f1 := (138, [some (.ref 65), some (.int bo), some (.int f), some (.int t), some (.int x20), some (.int c), some (.int (dd + Int32.ofInt 1)), some (.int x10)], [])) (w1 := w) rfl rfl ?_
              obtain ⟨x22, x22e⟩ : ∃ z, z = (dd + Int32.ofInt 1) := ⟨_, rfl⟩
              have x22t : x22.toInt = dd.toInt + (1) := by rw [x22e]; exact n_add (y := Int32.ofInt (1)) (by show _ ≤ _ + (1 : Int); omega) (by show _ + (1 : Int) ≤ _; omega)
              rw [← x22e]
              refine aw_step (f1 := (48, [some (.ref 65), some (.int bo), some (.int f), some (.int t), some (.int x20), some (.int c), some (.int x22), some (.int x10)], [])) (w1 := w) rfl rfl ?_
              exact ih w x20 x22 _ (by omega) (by omega) (by omega) J (by omega) (by omega)
        · --
          refine aw_step (f1 := (85, [some (.ref 65), some (.int bo), some (.int f), some (.int t), some (.int more), some (.int c), some (.int dd), o7], [(.ref 65)])) (w1 := w) rfl rfl ?_
          refine aw_step (f1 := (87, [some (.ref 65), some (.int bo), some (.int f), some (.int t), some (.int more), some (.int c), some (.int dd), o7], [(.int dd), (.ref 65)])) (w1 := w) rfl rfl ?_
          refine aw_step (f1 := (88, [some (.ref 65), some (.int bo), some (.int f), some (.int t), some (.int more), some (.int c), some (.int dd), o7], [(.ref 65), (.int dd), (.ref 65)])) (w1 := w) rfl rfl ?_
          refine s_gr 78 J 91 rfl rfl rfl rfl rfl rfl ?_
          refine aw_step (f1 := (93, [some (.ref 65), some (.int bo), some (.int f), some (.int t), some (.int more), some (.int c), some (.int dd), o7], [(.int c), (.ref 78), (.int dd), (.ref 65)])) (w1 := w) rfl rfl ?_
          refine s_ia J 94 rfl rfl rfl rfl (by omega) (by omega) fun x23 x23a x23b x23f => ?_
          refine aw_step (f1 := (95, [some (.ref 65), some (.int bo), some (.int f), some (.int t), some (.int more), some (.int c), some (.int dd), o7], [(.ref 65), (.int x23), (.int dd), (.ref 65)])) (w1 := w) rfl rfl ?_
          refine s_gr 66 J 98 rfl rfl rfl rfl rfl rfl ?_
          refine aw_step (f1 := (100, [some (.ref 65), some (.int bo), some (.int f), some (.int t), some (.int more), some (.int c), some (.int dd), o7], [(.int dd), (.ref 66), (.int x23), (.int dd), (.ref 65)])) (w1 := w) rfl rfl ?_
          refine s_ia J 101 rfl rfl rfl rfl (by omega) (by omega) fun x24 x24a x24b x24f => ?_
          refine s_cs (z := 135) (as := [(.int x24)]) (st1 := [(.int x23), (.int dd), (.ref 65)]) 104 rfl rfl rfl rfl rfl rfl (Nat.le_of_ble_eq_true rfl) (Nat.le_of_ble_eq_true rfl) (Nat.le_of_ble_eq_true rfl) (q_wearOf x24) ?_
          rintro _ _ ⟨rfl, x25, rfl, x25t⟩
          refine ⟨rfl, ?_⟩
          show aw none _ 148 _ (104, [some (.ref 65), some (.int bo), some (.int f), some (.int t), some (.int more), some (.int c), some (.int dd), o7], [(.int x25), (.int x23), (.int dd), (.ref 65)]) w
          refine s_i (pc1 := 105) (ls1 := [some (.ref 65), some (.int bo), some (.int f), some (.int t), some (.int more), some (.int c), some (.int dd), o7]) (st1 := [(.int dd), (.ref 65)]) rfl rfl fun x26 e27 => ?_
          have e27 : x26 = x23 + x25 := e27
          have e27t : x26.toInt = x23.toInt + x25.toInt := by rw [e27]; exact n_add (by omega) (by omega)
          refine s_cv (z := 147) (p := 65) (as := [(.int dd), (.int x26)]) (st1 := []) J 108 rfl rfl rfl rfl rfl rfl rfl rfl (Nat.le_of_ble_eq_true rfl) (Nat.le_of_ble_eq_true rfl) (q_cheapen dd x26 ⟨by omega, by omega⟩ (by omega) J.1) ?_
          rintro _ w29 ⟨x28, rfl, J30c, w29o, w29p⟩
          have J30 := J.trans J30c
          refine ⟨am_len2 J J30c, ?_⟩
          show aw none _ 148 _ (108, [some (.ref 65), some (.int bo), some (.int f), some (.int t), some (.int more), some (.int c), some (.int dd), o7], [(.int x28)]) w29
          have w29s := w29p.s (by omega)
          have w29z := w29o.sz (by decide)
          refine s_if 115 111 rfl rfl rfl (fun (h31 : x28.toInt = 0) => ?_) (fun (h31 : ¬ (x28.toInt = 0)) => ?_)
          · --
            refine s_i (pc1 := 116) (ls1 := [some (.ref 65), some (.int bo), some (.int f), some (.int t), some (.int more), some (.int c), some (.int dd), o7]) (st1 := []) rfl rfl fun x32 e33 => ?_
            have e33t : x32.toInt = 0 := by rw [e33]; rfl
            refine aw_step (f1 := (118, [some (.ref 65), some (.int bo), some (.int f), some (.int t), some (.int more), some (.int c), some (.int dd), some (.int x32)], [])) (w1 := w29) rfl rfl ?_
            refine aw_step (f1 := (120, [some (.ref 65), some (.int bo), some (.int f), some (.int t), some (.int more), some (.int c), some (.int dd), some (.int x32)], [(.int more)])) (w1 := w29) rfl rfl ?_
            refine s_if 128 123 rfl rfl rfl (fun (h34 : ¬ more.toInt = 0) => ?_) (fun (h34 : ¬ (¬ more.toInt = 0)) => ?_)
            · --
              refine s_i (pc1 := 129) (ls1 := [some (.ref 65), some (.int bo), some (.int f), some (.int t), some (.int more), some (.int c), some (.int dd), some (.int x32)]) (st1 := []) rfl rfl fun x35 e36 => ?_
              have e36t : x35.toInt = 1 := by rw [e36]; rfl
              refine aw_step (f1 := (133, [some (.ref 65), some (.int bo), some (.int f), some (.int t), some (.int more), some (.int c), some (.int dd), some (.int x32)], [(.int x35)])) (w1 := w29) rfl rfl ?_
              refine aw_step (f1 := (135, [some (.ref 65), some (.int bo), some (.int f), some (.int t), some (.int x35), some (.int c), some (.int dd), some (.int x32)], [])) (w1 := w29) rfl rfl ?_
              refine aw_step (f1 := (138, [some (.ref 65), some (.int bo), some (.int f), some (.int t), some (.int x35), some (.int c), some (.int (dd + Int32.ofInt 1)), some (.int x32)], [])) (w1 := w29) rfl rfl ?_
              obtain ⟨x37, x37e⟩ : ∃ z, z = (dd + Int32.ofInt 1) := ⟨_, rfl⟩
              have x37t : x37.toInt = dd.toInt + (1) := by rw [x37e]; exact n_add (y := Int32.ofInt (1)) (by show _ ≤ _ + (1 : Int); omega) (by show _ + (1 : Int) ≤ _; omega)
              rw [← x37e]
              refine aw_step (f1 := (48, [some (.ref 65), some (.int bo), some (.int f), some (.int t), some (.int x35), some (.int c), some (.int x37), some (.int x32)], [])) (w1 := w29) rfl rfl ?_
              exact ih w29 x35 x37 _ (by omega) (by omega) (by omega) J30 (by omega) (by omega)
            · --
              refine aw_step (f1 := (125, [some (.ref 65), some (.int bo), some (.int f), some (.int t), some (.int more), some (.int c), some (.int dd), some (.int x32)], [(.int x32)])) (w1 := w29) rfl rfl ?_
              refine s_if 132 128 rfl rfl rfl (fun (h38 : x32.toInt = 0) => ?_) (fun (h38 : ¬ (x32.toInt = 0)) => ?_)
              · --
                refine s_i (pc1 := 133) (ls1 := [some (.ref 65), some (.int bo), some (.int f), some (.int t), some (.int more), some (.int c), some (.int dd), some (.int x32)]) (st1 := []) rfl rfl fun x39 e40 => ?_
                have e40t : x39.toInt = 0 := by rw [e40]; rfl
                refine aw_step (f1 := (135, [some (.ref 65), some (.int bo), some (.int f), some (.int t), some (.int x39), some (.int c), some (.int dd), some (.int x32)], [])) (w1 := w29) rfl rfl ?_
                refine aw_step (f1 := (138, [some (.ref 65), some (.int bo), some (.int f), some (.int t), some (.int x39), some (.int c), some (.int (dd + Int32.ofInt 1)), some (.int x32)], [])) (w1 := w29) rfl rfl ?_
                obtain ⟨x41, x41e⟩ : ∃ z, z = (dd + Int32.ofInt 1) := ⟨_, rfl⟩
                have x41t : x41.toInt = dd.toInt + (1) := by rw [x41e]; exact n_add (y := Int32.ofInt (1)) (by show _ ≤ _ + (1 : Int); omega) (by show _ + (1 : Int) ≤ _; omega)
                rw [← x41e]
                refine aw_step (f1 := (48, [some (.ref 65), some (.int bo), some (.int f), some (.int t), some (.int x39), some (.int c), some (.int x41), some (.int x32)], [])) (w1 := w29) rfl rfl ?_
                exact ih w29 x39 x41 _ (by omega) (by omega) (by omega) J30 (by omega) (by omega)
              · --
                refine s_i (pc1 := 129) (ls1 := [some (.ref 65), some (.int bo), some (.int f), some (.int t), some (.int more), some (.int c), some (.int dd), some (.int x32)]) (st1 := []) rfl rfl fun x42 e43 => ?_
                have e43t : x42.toInt = 1 := by rw [e43]; rfl
                refine aw_step (f1 := (133, [some (.ref 65), some (.int bo), some (.int f), some (.int t), some (.int more), some (.int c), some (.int dd), some (.int x32)], [(.int x42)])) (w1 := w29) rfl rfl ?_
                refine aw_step (f1 := (135, [some (.ref 65), some (.int bo), some (.int f), some (.int t), some (.int x42), some (.int c), some (.int dd), some (.int x32)], [])) (w1 := w29) rfl rfl ?_
                refine aw_step (f1 := (138, [some (.ref 65), some (.int bo), some (.int f), some (.int t), some (.int x42), some (.int c), some (.int (dd + Int32.ofInt 1)), some (.int x32)], [])) (w1 := w29) rfl rfl ?_
                obtain ⟨x44, x44e⟩ : ∃ z, z = (dd + Int32.ofInt 1) := ⟨_, rfl⟩
                have x44t : x44.toInt = dd.toInt + (1) := by rw [x44e]; exact n_add (y := Int32.ofInt (1)) (by show _ ≤ _ + (1 : Int); omega) (by show _ + (1 : Int) ≤ _; omega)
                rw [← x44e]
                refine aw_step (f1 := (48, [some (.ref 65), some (.int bo), some (.int f), some (.int t), some (.int x42), some (.int c), some (.int x44), some (.int x32)], [])) (w1 := w29) rfl rfl ?_
                exact ih w29 x42 x44 _ (by omega) (by omega) (by omega) J30 (by omega) (by omega)
          · --
            refine s_i (pc1 := 112) (ls1 := [some (.ref 65), some (.int bo), some (.int f), some (.int t), some (.int more), some (.int c), some (.int dd), o7]) (st1 := []) rfl rfl fun x45 e46 => ?_
            have e46t : x45.toInt = 1 := by rw [e46]; rfl
            refine aw_step (f1 := (116, [some (.ref 65), some (.int bo), some (.int f), some (.int t), some (.int more), some (.int c), some (.int dd), o7], [(.int x45)])) (w1 := w29) rfl rfl ?_
            refine aw_step (f1 := (118, [some (.ref 65), some (.int bo), some (.int f), some (.int t), some (.int more), some (.int c), some (.int dd), some (.int x45)], [])) (w1 := w29) rfl rfl ?_
            refine aw_step (f1 := (120, [some (.ref 65), some (.int bo), some (.int f), some (.int t), some (.int more), some (.int c), some (.int dd), some (.int x45)], [(.int more)])) (w1 := w29) rfl rfl ?_
            refine s_if 128 123 rfl rfl rfl (fun (h47 : ¬ more.toInt = 0) => ?_) (fun (h47 : ¬ (¬ more.toInt = 0)) => ?_)
            · --
              refine s_i (pc1 := 129) (ls1 := [some (.ref 65), some (.int bo), some (.int f), some (.int t), some (.int more), some (.int c), some (.int dd), some (.int x45)]) (st1 := []) rfl rfl fun x48 e49 => ?_
              have e49t : x48.toInt = 1 := by rw [e49]; rfl
              refine aw_step (f1 := (133, [some (.ref 65), some (.int bo), some (.int f), some (.int t), some (.int more), some (.int c), some (.int dd), some (.int x45)], [(.int x48)])) (w1 := w29) rfl rfl ?_
              refine aw_step (f1 := (135, [some (.ref 65), some (.int bo), some (.int f), some (.int t), some (.int x48), some (.int c), some (.int dd), some (.int x45)], [])) (w1 := w29) rfl rfl ?_
              refine aw_step (f1 := (138, [some (.ref 65), some (.int bo), some (.int f), some (.int t), some (.int x48), some (.int c), some (.int (dd + Int32.ofInt 1)), some (.int x45)], [])) (w1 := w29) rfl rfl ?_
              obtain ⟨x50, x50e⟩ : ∃ z, z = (dd + Int32.ofInt 1) := ⟨_, rfl⟩
              have x50t : x50.toInt = dd.toInt + (1) := by rw [x50e]; exact n_add (y := Int32.ofInt (1)) (by show _ ≤ _ + (1 : Int); omega) (by show _ + (1 : Int) ≤ _; omega)
              rw [← x50e]
              refine aw_step (f1 := (48, [some (.ref 65), some (.int bo), some (.int f), some (.int t), some (.int x48), some (.int c), some (.int x50), some (.int x45)], [])) (w1 := w29) rfl rfl ?_
              exact ih w29 x48 x50 _ (by omega) (by omega) (by omega) J30 (by omega) (by omega)
            · --
              refine aw_step (f1 := (125, [some (.ref 65), some (.int bo), some (.int f), some (.int t), some (.int more), some (.int c), some (.int dd), some (.int x45)], [(.int x45)])) (w1 := w29) rfl rfl ?_
              refine s_if 132 128 rfl rfl rfl (fun (h51 : x45.toInt = 0) => ?_) (fun (h51 : ¬ (x45.toInt = 0)) => ?_)
              · --
                refine s_i (pc1 := 133) (ls1 := [some (.ref 65), some (.int bo), some (.int f), some (.int t), some (.int more), some (.int c), some (.int dd), some (.int x45)]) (st1 := []) rfl rfl fun x52 e53 => ?_
                have e53t : x52.toInt = 0 := by rw [e53]; rfl
                refine aw_step (f1 := (135, [some (.ref 65), some (.int bo), some (.int f), some (.int t), some (.int x52), some (.int c), some (.int dd), some (.int x45)], [])) (w1 := w29) rfl rfl ?_
                refine aw_step (f1 := (138, [some (.ref 65), some (.int bo), some (.int f), some (.int t), some (.int x52), some (.int c), some (.int (dd + Int32.ofInt 1)), some (.int x45)], [])) (w1 := w29) rfl rfl ?_
                obtain ⟨x54, x54e⟩ : ∃ z, z = (dd + Int32.ofInt 1) := ⟨_, rfl⟩
                have x54t : x54.toInt = dd.toInt + (1) := by rw [x54e]; exact n_add (y := Int32.ofInt (1)) (by show _ ≤ _ + (1 : Int); omega) (by show _ + (1 : Int) ≤ _; omega)
                rw [← x54e]
                refine aw_step (f1 := (48, [some (.ref 65), some (.int bo), some (.int f), some (.int t), some (.int x52), some (.int c), some (.int x54), some (.int x45)], [])) (w1 := w29) rfl rfl ?_
                exact ih w29 x52 x54 _ (by omega) (by omega) (by omega) J30 (by omega) (by omega)
              · --
                refine s_i (pc1 := 129) (ls1 := [some (.ref 65), some (.int bo), some (.int f), some (.int t), some (.int more), some (.int c), some (.int dd), some (.int x45)]) (st1 := []) rfl rfl fun x55 e56 => ?_
                have e56t : x55.toInt = 1 := by rw [e56]; rfl
                refine aw_step (f1 := (133, [some (.ref 65), some (.int bo), some (.int f), some (.int t), some (.int more), some (.int c), some (.int dd), some (.int x45)], [(.int x55)])) (w1 := w29) rfl rfl ?_
                refine aw_step (f1 := (135, [some (.ref 65), some (.int bo), some (.int f), some (.int t), some (.int x55), some (.int c), some (.int dd), some (.int x45)], [])) (w1 := w29) rfl rfl ?_
                refine aw_step (f1 := (138, [some (.ref 65), some (.int bo), some (.int f), some (.int t), some (.int x55), some (.int c), some (.int (dd + Int32.ofInt 1)), some (.int x45)], [])) (w1 := w29) rfl rfl ?_
                obtain ⟨x57, x57e⟩ : ∃ z, z = (dd + Int32.ofInt 1) := ⟨_, rfl⟩
                have x57t : x57.toInt = dd.toInt + (1) := by rw [x57e]; exact n_add (y := Int32.ofInt (1)) (by show _ ≤ _ + (1 : Int); omega) (by show _ + (1 : Int) ≤ _; omega)
                rw [← x57e]
                refine aw_step (f1 := (48, [some (.ref 65), some (.int bo), some (.int f), some (.int t), some (.int x55), some (.int c), some (.int x57), some (.int x45)], [])) (w1 := w29) rfl rfl ?_
                exact ih w29 x55 x57 _ (by omega) (by omega) (by omega) J30 (by omega) (by omega)
theorem q_wornJ {d : Nat} {Q : Option Value → am_W → Prop} {w00 : am_W} {z s0 : Int} (bo f t : Int32) (K : ∀ (w : am_W) (more c : Int32) (o6 o7 : Option Value), ab_J ab_TT ab_sets ab_WR w00 w → szM w = z → ((more.toInt = 1 ∧ sC w < s0) ∨ (more.toInt = 0 ∧ sC w ≤ s0)) → aw none (d + 3) 148 Q (147, [some (.ref 65), some (.int bo), some (.int f), some (.int t), some (.int more), some (.int c), o6, o7], []) w) : ∀ (m : Nat) (w : am_W) (more c : Int32) (o6 o7 : Option Value), (z - c.toInt).toNat < m → 0 ≤ c.toInt → c.toInt ≤ z → ab_J ab_TT ab_sets ab_WR w00 w → szM w = z → ((more.toInt = 1 ∧ sC w < s0) ∨ (more.toInt = 0 ∧ sC w ≤ s0)) → aw none (d + 3) 148 Q (36, [some (.ref 65), some (.int bo), some (.int f), some (.int t), some (.int more), some (.int c), o6, o7], []) w := by
  intro m
  induction m with
  | zero => intro w more c o6 o7 p; omega
  | succ m ih =>
    intro w more c o6 o7 p1 p2 p3 J zz R
    have sz := szM_in J.1
    refine aw_step (f1 := (38, [some (.ref 65), some (.int bo), some (.int f), some (.int t), some (.int more), some (.int c), o6, o7], [(.int c)])) (w1 := w) rfl rfl ?_
    refine aw_step (f1 := (39, [some (.ref 65), some (.int bo), some (.int f), some (.int t), some (.int more), some (.int c), o6, o7], [(.ref 65), (.int c)])) (w1 := w) rfl rfl ?_
    refine s_cv (z := 113) (p := 65) (as := []) (st1 := [(.int c)]) J 42 rfl rfl rfl rfl rfl rfl rfl rfl (Nat.le_of_ble_eq_true rfl) (Nat.le_of_ble_eq_true rfl) (q_cells J.1) ?_
    rintro _ _ ⟨rfl, x1, rfl, x1t⟩
    refine ⟨rfl, ?_⟩
    show aw none _ 148 _ (42, [some (.ref 65), some (.int bo), some (.int f), some (.int t), some (.int more), some (.int c), o6, o7], [(.int x1), (.int c)]) w
    have x1s := szM_in J.1
    refine s_ic 147 45 rfl rfl rfl (fun (h2 : x1.toInt ≤ c.toInt) => ?_) (fun (h2 : ¬ (x1.toInt ≤ c.toInt)) => ?_)
    · --
      exact K w more c _ _ J zz R
    · --
      refine s_i (pc1 := 46) (ls1 := [some (.ref 65), some (.int bo), some (.int f), some (.int t), some (.int more), some (.int c), o6, o7]) (st1 := []) rfl rfl fun x3 e4 => ?_
      have e4t : x3.toInt = 0 := by rw [e4]; rfl
      refine aw_step (f1 := (48, [some (.ref 65), some (.int bo), some (.int f), some (.int t), some (.int more), some (.int c), some (.int x3), o7], [])) (w1 := w) rfl rfl ?_
      refine q_wornI bo f t c ⟨by omega, by omega⟩ (fun wq mq dq o7q Jq zq Rq => ?_) (z.toNat + 1) w more x3 _ (by omega) (by omega) (by omega) J zz R
      refine aw_step (f1 := (144, [some (.ref 65), some (.int bo), some (.int f), some (.int t), some (.int mq), some (.int (c + Int32.ofInt 1)), some (.int dq), o7q], [])) (w1 := wq) rfl rfl ?_
      obtain ⟨zx1, zx1e⟩ : ∃ z, z = (c + Int32.ofInt 1) := ⟨_, rfl⟩
      have zx1t : zx1.toInt = c.toInt + (1) := by rw [zx1e]; exact n_add (y := Int32.ofInt (1)) (by show _ ≤ _ + (1 : Int); omega) (by show _ + (1 : Int) ≤ _; omega)
      rw [← zx1e]
      refine aw_step (f1 := (36, [some (.ref 65), some (.int bo), some (.int f), some (.int t), some (.int mq), some (.int zx1), some (.int dq), o7q], [])) (w1 := wq) rfl rfl ?_
      exact ih wq mq zx1 _ _ (by omega) (by omega) (by omega) Jq zq Rq
theorem q_wornO {d : Nat} {w00 : am_W} (bo f t : Int32) (ht : 0 ≤ t.toInt ∧ t.toInt < 36) : ∀ (m : Nat) (w : am_W) (more : Int32) (o5 o6 o7 : Option Value), ((sC w).toNat + more.toInt.toNat) < m → (more.toInt = 0 ∨ more.toInt = 1) → ab_J ab_TT ab_sets ab_WR w00 w → aw none (d + 3) 148 (QS w00) (25, [some (.ref 65), some (.int bo), some (.int f), some (.int t), some (.int more), o5, o6, o7], []) w := by
  intro m
  induction m with
  | zero => intro w more o5 o6 o7 p; omega
  | succ m ih =>
    intro w more o5 o6 o7 p1 p2 J
    have sz := szM_in J.1
    refine aw_step (f1 := (27, [some (.ref 65), some (.int bo), some (.int f), some (.int t), some (.int more), o5, o6, o7], [(.int more)])) (w1 := w) rfl rfl ?_
    refine s_if 150 30 rfl rfl rfl (fun (h1 : more.toInt = 0) => ?_) (fun (h1 : ¬ (more.toInt = 0)) => ?_)
    · --
      refine aw_step (f1 := (151, [some (.ref 65), some (.int bo), some (.int f), some (.int t), some (.int more), o5, o6, o7], [(.ref 65)])) (w1 := w) rfl rfl ?_
      refine s_gr 78 J 154 rfl rfl rfl rfl rfl rfl ?_
      refine aw_step (f1 := (155, [some (.ref 65), some (.int bo), some (.int f), some (.int t), some (.int more), o5, o6, o7], [(.int t), (.ref 78)])) (w1 := w) rfl rfl ?_
      refine s_ia J 156 rfl rfl rfl rfl (by omega) (by omega) fun x2 x2a x2b x2f => ?_
      refine s_i (pc1 := 158) (ls1 := [some (.ref 65), some (.int bo), some (.int f), some (.int t), some (.int more), o5, o6, o7]) (st1 := [(.int x2)]) rfl rfl fun x3 e4 => ?_
      have e4t : x3.toInt = 100000 := by rw [e4]; rfl
      refine s_ic 166 161 rfl rfl rfl (fun (h5 : ¬ x2.toInt = x3.toInt) => ?_) (fun (h5 : ¬ (¬ x2.toInt = x3.toInt)) => ?_)
      · --
        refine aw_step (f1 := (167, [some (.ref 65), some (.int bo), some (.int f), some (.int t), some (.int more), o5, o6, o7], [(.ref 65)])) (w1 := w) rfl rfl ?_
        refine s_gr 78 J 170 rfl rfl rfl rfl rfl rfl ?_
        refine aw_step (f1 := (171, [some (.ref 65), some (.int bo), some (.int f), some (.int t), some (.int more), o5, o6, o7], [(.int t), (.ref 78)])) (w1 := w) rfl rfl ?_
        refine s_ia J 172 rfl rfl rfl rfl (by omega) (by omega) fun x6 x6a x6b x6f => ?_
        refine aw_ret (v := some (.int x6)) rfl rfl ?_
        exact ⟨J, x6, rfl⟩
      · --
        refine s_i (pc1 := 163) (ls1 := [some (.ref 65), some (.int bo), some (.int f), some (.int t), some (.int more), o5, o6, o7]) (st1 := []) rfl rfl fun x7 e8 => ?_
        have e8t : x7.toInt = -6 := by rw [e8]; rfl
        refine aw_step (f1 := (172, [some (.ref 65), some (.int bo), some (.int f), some (.int t), some (.int more), o5, o6, o7], [(.int x7)])) (w1 := w) rfl rfl ?_
        refine aw_ret (v := some (.int x7)) rfl rfl ?_
        exact ⟨J, x7, rfl⟩
    · --
      refine s_i (pc1 := 31) (ls1 := [some (.ref 65), some (.int bo), some (.int f), some (.int t), some (.int more), o5, o6, o7]) (st1 := []) rfl rfl fun x9 e10 => ?_
      have e10t : x9.toInt = 0 := by rw [e10]; rfl
      refine aw_step (f1 := (33, [some (.ref 65), some (.int bo), some (.int f), some (.int t), some (.int x9), o5, o6, o7], [])) (w1 := w) rfl rfl ?_
      refine s_i (pc1 := 34) (ls1 := [some (.ref 65), some (.int bo), some (.int f), some (.int t), some (.int x9), o5, o6, o7]) (st1 := []) rfl rfl fun x11 e12 => ?_
      have e12t : x11.toInt = 0 := by rw [e12]; rfl
      refine aw_step (f1 := (36, [some (.ref 65), some (.int bo), some (.int f), some (.int t), some (.int x9), some (.int x11), o6, o7], [])) (w1 := w) rfl rfl ?_
      have s1 := sC_0 J.1
      refine q_wornJ (z := szM w) (s0 := sC w) bo f t (fun wq mq cq o6q o7q Jq zq Rq => ?_) ((szM w).toNat + 1) w x9 x11 _ _ (by omega) (by omega) (by omega) J rfl (by omega)
      have s2 := sC_0 Jq.1
      refine aw_step (f1 := (25, [some (.ref 65), some (.int bo), some (.int f), some (.int t), some (.int mq), some (.int cq), o6q, o7q], [])) (w1 := wq) rfl rfl ?_
      exact ih wq mq _ _ _ (by omega) (by omega) Jq
theorem q_worn {d : Nat} {w : am_W} (bo f t : Int32) (I : ab_inv ab_TT ab_sets w) : aw none (d + 6) 148 (QS w) (0, am_entry 148 [.ref 65, .int bo, .int f, .int t], []) w := by
  have J : ab_J ab_TT ab_sets ab_WR w w := ⟨I, ab_fr.rf⟩
  have sz := szM_in I
  show aw none (d + 6) 148 _ (0, [some (.ref 65), some (.int bo), some (.int f), some (.int t), none, none, none, none], []) w
  refine aw_step (f1 := (1, [some (.ref 65), some (.int bo), some (.int f), some (.int t), none, none, none, none], [(.ref 65)])) (w1 := w) rfl rfl ?_
  refine aw_step (f1 := (2, [some (.ref 65), some (.int bo), some (.int f), some (.int t), none, none, none, none], [(.int bo), (.ref 65)])) (w1 := w) rfl rfl ?_
  refine aw_step (f1 := (3, [some (.ref 65), some (.int bo), some (.int f), some (.int t), none, none, none, none], [(.int f), (.int bo), (.ref 65)])) (w1 := w) rfl rfl ?_
  refine aw_step (f1 := (4, [some (.ref 65), some (.int bo), some (.int f), some (.int t), none, none, none, none], [(.int t), (.int f), (.int bo), (.ref 65)])) (w1 := w) rfl rfl ?_
  refine s_cv (z := 143) (p := 65) (as := [(.int bo), (.int f), (.int t)]) (st1 := []) J 7 rfl rfl rfl rfl rfl rfl rfl rfl (Nat.le_of_ble_eq_true rfl) (Nat.le_of_ble_eq_true rfl) (q_isAsked bo f t J.1) ?_
  rintro _ _ ⟨rfl, x1, rfl, x1t⟩
  refine ⟨rfl, ?_⟩
  show aw none _ 148 _ (7, [some (.ref 65), some (.int bo), some (.int f), some (.int t), none, none, none, none], [(.int x1)]) w
  have x1s := szM_in J.1
  refine s_if 12 10 rfl rfl rfl (fun (h2 : ¬ x1.toInt = 0) => ?_) (fun (h2 : ¬ (¬ x1.toInt = 0)) => ?_)
  · --
    refine aw_step (f1 := (13, [some (.ref 65), some (.int bo), some (.int f), some (.int t), none, none, none, none], [(.ref 65)])) (w1 := w) rfl rfl ?_
    refine aw_step (f1 := (14, [some (.ref 65), some (.int bo), some (.int f), some (.int t), none, none, none, none], [(.int bo), (.ref 65)])) (w1 := w) rfl rfl ?_
    refine s_cv (z := 133) (p := 65) (as := [(.int bo)]) (st1 := []) J 17 rfl rfl rfl rfl rfl rfl rfl rfl (Nat.le_of_ble_eq_true rfl) (Nat.le_of_ble_eq_true rfl) (q_putOn bo ⟨by omega, by omega⟩ J.1) ?_
    rintro _ w3 ⟨rfl, J4c, w3o, w3p⟩
    have J4 := J.trans J4c
    refine ⟨am_len2 J J4c, ?_⟩
    show aw none _ 148 _ (17, [some (.ref 65), some (.int bo), some (.int f), some (.int t), none, none, none, none], []) w3
    have zo := w3o.sz (by decide)
    refine aw_step (f1 := (18, [some (.ref 65), some (.int bo), some (.int f), some (.int t), none, none, none, none], [(.ref 65)])) (w1 := w3) rfl rfl ?_
    refine aw_step (f1 := (19, [some (.ref 65), some (.int bo), some (.int f), some (.int t), none, none, none, none], [(.int f), (.ref 65)])) (w1 := w3) rfl rfl ?_
    refine s_cv (z := 146) (p := 65) (as := [(.int f)]) (st1 := []) J4 22 rfl rfl rfl rfl rfl rfl rfl rfl (Nat.le_of_ble_eq_true rfl) (Nat.le_of_ble_eq_true rfl) (q_beginCosts f ⟨by omega, by omega⟩ J4.1) ?_
    rintro _ w5 ⟨rfl, J6c, w5o, w5p⟩
    have J6 := J4.trans J6c
    refine ⟨am_len2 J4 J6c, ?_⟩
    show aw none _ 148 _ (22, [some (.ref 65), some (.int bo), some (.int f), some (.int t), none, none, none, none], []) w5
    refine s_i (pc1 := 23) (ls1 := [some (.ref 65), some (.int bo), some (.int f), some (.int t), none, none, none, none]) (st1 := []) rfl rfl fun x7 e8 => ?_
    have e8t : x7.toInt = 1 := by rw [e8]; rfl
    refine aw_step (f1 := (25, [some (.ref 65), some (.int bo), some (.int f), some (.int t), some (.int x7), none, none, none], [])) (w1 := w5) rfl rfl ?_
    exact q_wornO bo f t ⟨by omega, by omega⟩ ((sC w5).toNat + 2) w5 x7 _ _ _ (by omega) (by omega) J6
  · --
    refine s_i (pc1 := 11) (ls1 := [some (.ref 65), some (.int bo), some (.int f), some (.int t), none, none, none, none]) (st1 := []) rfl rfl fun x9 e10 => ?_
    have e10t : x9.toInt = -1 := by rw [e10]; rfl
    refine aw_ret (v := some (.int x9)) rfl rfl ?_
    exact ⟨J, x9, rfl⟩
theorem q_timeI {d : Nat} {Q : Option Value → am_W → Prop} {w00 : am_W} {z s0 : Int} (bo f t c : Int32) (hc : 0 ≤ c.toInt ∧ c.toInt < z) (K : ∀ (w : am_W) (more dd : Int32) (o7 o8 o9 : Option Value), ab_J ab_TT ab_sets ab_WR w00 w → szM w = z → ((more.toInt = 1 ∧ sC w < s0) ∨ (more.toInt = 0 ∧ sC w ≤ s0)) → aw none (d + 3) 151 Q (201, [some (.ref 65), some (.int bo), some (.int f), some (.int t), some (.int more), some (.int c), some (.int dd), o7, o8, o9], []) w) : ∀ (m : Nat) (w : am_W) (more dd : Int32) (o7 o8 o9 : Option Value), (z - dd.toInt).toNat < m → 0 ≤ dd.toInt → dd.toInt ≤ z → ab_J ab_TT ab_sets ab_WR w00 w → szM w = z → ((more.toInt = 1 ∧ sC w < s0) ∨ (more.toInt = 0 ∧ sC w ≤ s0)) → aw none (d + 3) 151 Q (48, [some (.ref 65), some (.int bo), some (.int f), some (.int t), some (.int more), some (.int c), some (.int dd), o7, o8, o9], []) w := by
  intro m
  induction m with
  | zero => intro w more dd o7 o8 o9 p; omega
  | succ m ih =>
    intro w more dd o7 o8 o9 p1 p2 p3 J zz R
    have sz := szM_in J.1
    refine aw_step (f1 := (50, [some (.ref 65), some (.int bo), some (.int f), some (.int t), some (.int more), some (.int c), some (.int dd), o7, o8, o9], [(.int dd)])) (w1 := w) rfl rfl ?_
    refine aw_step (f1 := (51, [some (.ref 65), some (.int bo), some (.int f), some (.int t), some (.int more), some (.int c), some (.int dd), o7, o8, o9], [(.ref 65), (.int dd)])) (w1 := w) rfl rfl ?_
    refine s_cv (z := 113) (p := 65) (as := []) (st1 := [(.int dd)]) J 54 rfl rfl rfl rfl rfl rfl rfl rfl (Nat.le_of_ble_eq_true rfl) (Nat.le_of_ble_eq_true rfl) (q_cells J.1) ?_
    rintro _ _ ⟨rfl, x1, rfl, x1t⟩
    refine ⟨rfl, ?_⟩
    show aw none _ 151 _ (54, [some (.ref 65), some (.int bo), some (.int f), some (.int t), some (.int more), some (.int c), some (.int dd), o7, o8, o9], [(.int x1), (.int dd)]) w
    have x1s := szM_in J.1
    refine s_ic 201 57 rfl rfl rfl (fun (h2 : x1.toInt ≤ dd.toInt) => ?_) (fun (h2 : ¬ (x1.toInt ≤ dd.toInt)) => ?_)
    · --
      exact K w more dd _ _ _ J zz R
    · --
      refine aw_step (f1 := (58, [some (.ref 65), some (.int bo), some (.int f), some (.int t), some (.int more), some (.int c), some (.int dd), o7, o8, o9], [(.ref 65)])) (w1 := w) rfl rfl ?_
      refine s_gr 78 J 61 rfl rfl rfl rfl rfl rfl ?_
      refine aw_step (f1 := (63, [some (.ref 65), some (.int bo), some (.int f), some (.int t), some (.int more), some (.int c), some (.int dd), o7, o8, o9], [(.int c), (.ref 78)])) (w1 := w) rfl rfl ?_
      refine s_ia J 64 rfl rfl rfl rfl (by omega) (by omega) fun x3 x3a x3b x3f => ?_
      refine s_i (pc1 := 66) (ls1 := [some (.ref 65), some (.int bo), some (.int f), some (.int t), some (.int more), some (.int c), some (.int dd), o7, o8, o9]) (st1 := [(.int x3)]) rfl rfl fun x4 e5 => ?_
      have e5t : x4.toInt = 100000 := by rw [e5]; rfl
      refine s_ic 201 69 rfl rfl rfl (fun (h6 : x4.toInt ≤ x3.toInt) => ?_) (fun (h6 : ¬ (x4.toInt ≤ x3.toInt)) => ?_)
      · --
        exact K w more dd _ _ _ J zz R
      · --
        refine aw_step (f1 := (70, [some (.ref 65), some (.int bo), some (.int f), some (.int t), some (.int more), some (.int c), some (.int dd), o7, o8, o9], [(.ref 65)])) (w1 := w) rfl rfl ?_
        refine aw_step (f1 := (72, [some (.ref 65), some (.int bo), some (.int f), some (.int t), some (.int more), some (.int c), some (.int dd), o7, o8, o9], [(.int dd), (.ref 65)])) (w1 := w) rfl rfl ?_
        refine s_cv (z := 115) (p := 65) (as := [(.int dd)]) (st1 := []) J 75 rfl rfl rfl rfl rfl rfl rfl rfl (Nat.le_of_ble_eq_true rfl) (Nat.le_of_ble_eq_true rfl) (q_isLand dd J.1) ?_
        rintro _ _ ⟨rfl, x7, rfl, x7t⟩
        refine ⟨rfl, ?_⟩
        show aw none _ 151 _ (75, [some (.ref 65), some (.int bo), some (.int f), some (.int t), some (.int more), some (.int c), some (.int dd), o7, o8, o9], [(.int x7)]) w
        have x7s := szM_in J.1
        refine s_if 94 78 rfl rfl rfl (fun (h8 : x7.toInt = 0) => ?_) (fun (h8 : ¬ (x7.toInt = 0)) => ?_)
        · --
          refine s_i (pc1 := 95) (ls1 := [some (.ref 65), some (.int bo), some (.int f), some (.int t), some (.int more), some (.int c), some (.int dd), o7, o8, o9]) (st1 := []) rfl rfl fun x9 e10 => ?_
          have e10t : x9.toInt = 0 := by rw [e10]; rfl
          refine aw_step (f1 := (97, [some (.ref 65), some (.int bo), some (.int f), some (.int t), some (.int more), some (.int c), some (.int dd), some (.int x9), o8, o9], [])) (w1 := w) rfl rfl ?_
          refine aw_step (f1 := (98, [some (.ref 65), some (.int bo), some (.int f), some (.int t), some (.int more), some (.int c), some (.int dd), some (.int x9), o8, o9], [(.ref 65)])) (w1 := w) rfl rfl ?_
          refine s_gr 74 J 101 rfl rfl rfl rfl rfl rfl ?_
          refine aw_step (f1 := (103, [some (.ref 65), some (.int bo), some (.int f), some (.int t), some (.int more), some (.int c), some (.int dd), some (.int x9), o8, o9], [(.int c), (.ref 74)])) (w1 := w) rfl rfl ?_
          refine s_la J 104 rfl rfl rfl (by omega) (by omega) fun y11 y11a y11b y11f => ?_
          refine aw_step (f1 := (106, [some (.ref 65), some (.int bo), some (.int f), some (.int t), some (.int more), some (.int c), some (.int dd), some (.int x9), o8, o9], [(.int dd), (.long y11)])) (w1 := w) rfl rfl ?_
          refine s_cs (z := 110) (as := [(.long y11), (.int dd)]) (st1 := []) 109 rfl rfl rfl rfl rfl rfl (Nat.le_of_ble_eq_true rfl) (Nat.le_of_ble_eq_true rfl) (Nat.le_of_ble_eq_true rfl) (q_has y11 dd (by omega) (by omega)) ?_
          rintro _ _ ⟨rfl, x12, rfl, x12t⟩
          refine ⟨rfl, ?_⟩
          show aw none _ 151 _ (109, [some (.ref 65), some (.int bo), some (.int f), some (.int t), some (.int more), some (.int c), some (.int dd), some (.int x9), o8, o9], [(.int x12)]) w
          have x12l := bt_le (n64 y11) dd.toInt.toNat
          refine s_if 137 112 rfl rfl rfl (fun (h13 : x12.toInt = 0) => ?_) (fun (h13 : ¬ (x12.toInt = 0)) => ?_)
          · --
            refine s_i (pc1 := 138) (ls1 := [some (.ref 65), some (.int bo), some (.int f), some (.int t), some (.int more), some (.int c), some (.int dd), some (.int x9), o8, o9]) (st1 := []) rfl rfl fun x14 e15 => ?_
            have e15t : x14.toInt = 0 := by rw [e15]; rfl
            refine aw_step (f1 := (140, [some (.ref 65), some (.int bo), some (.int f), some (.int t), some (.int more), some (.int c), some (.int dd), some (.int x9), some (.int x14), o9], [])) (w1 := w) rfl rfl ?_
            refine aw_step (f1 := (142, [some (.ref 65), some (.int bo), some (.int f), some (.int t), some (.int more), some (.int c), some (.int dd), some (.int x9), some (.int x14), o9], [(.int x9)])) (w1 := w) rfl rfl ?_
            refine s_if 170 145 rfl rfl rfl (fun (h16 : x9.toInt = 0) => ?_) (fun (h16 : ¬ (x9.toInt = 0)) => ?_)
            · --
              refine s_i (pc1 := 171) (ls1 := [some (.ref 65), some (.int bo), some (.int f), some (.int t), some (.int more), some (.int c), some (.int dd), some (.int x9), some (.int x14), o9]) (st1 := []) rfl rfl fun x17 e18 => ?_
              have e18t : x17.toInt = 0 := by rw [e18]; rfl
              refine aw_step (f1 := (173, [some (.ref 65), some (.int bo), some (.int f), some (.int t), some (.int more), some (.int c), some (.int dd), some (.int x9), some (.int x14), some (.int x17)], [])) (w1 := w) rfl rfl ?_
              refine aw_step (f1 := (175, [some (.ref 65), some (.int bo), some (.int f), some (.int t), some (.int more), some (.int c), some (.int dd), some (.int x9), some (.int x14), some (.int x17)], [(.int more)])) (w1 := w) rfl rfl ?_
              refine s_if 188 178 rfl rfl rfl (fun (h19 : ¬ more.toInt = 0) => ?_) (fun (h19 : ¬ (¬ more.toInt = 0)) => ?_)
              · --
                refine s_i (pc1 := 189) (ls1 := [some (.ref 65), some (.int bo), some (.int f), some (.int t), some (.int more), some (.int c), some (.int dd), some (.int x9), some (.int x14), some (.int x17)]) (st1 := []) rfl rfl fun x20 e21 => ?_
                have e21t : x20.toInt = 1 := by rw [e21]; rfl
                refine aw_step (f1 := (193, [some (.ref 65), some (.int bo), some (.int f), some (.int t), some (.int more), some (.int c), some (.int dd), some (.int x9), some (.int x14), some (.int x17)], [(.int x20)])) (w1 := w) rfl rfl ?_
                refine aw_step (f1 := (195, [some (.ref 65), some (.int bo), some (.int f), some (.int t), some (.int x20), some (.int c), some (.int dd), some (.int x9), some (.int x14), some (.int x17)], [])) (w1 := w) rfl rfl ?_
                refine aw_step (f1 := (198, [some (.ref 65), some (.int bo), some (.int f), some (.int t), some (.int x20), some (.int c), some (.int (dd + Int32.ofInt 1)), some (.int x9), some (.int x14), some (.int x17)], [])) (w1 := w) rfl rfl ?_
                obtain ⟨x22, x22e⟩ : ∃ z, z = (dd + Int32.ofInt 1) := ⟨_, rfl⟩
                have x22t : x22.toInt = dd.toInt + (1) := by rw [x22e]; exact n_add (y := Int32.ofInt (1)) (by show _ ≤ _ + (1 : Int); omega) (by show _ + (1 : Int) ≤ _; omega)
                rw [← x22e]
                refine aw_step (f1 := (48, [some (.ref 65), some (.int bo), some (.int f), some (.int t), some (.int x20), some (.int c), some (.int x22), some (.int x9), some (.int x14), some (.int x17)], [])) (w1 := w) rfl rfl ?_
                exact ih w x20 x22 _ _ _ (by omega) (by omega) (by omega) J (by omega) (by omega)
              · --
                refine aw_step (f1 := (180, [some (.ref 65), some (.int bo), some (.int f), some (.int t), some (.int more), some (.int c), some (.int dd), some (.int x9), some (.int x14), some (.int x17)], [(.int x14)])) (w1 := w) rfl rfl ?_
                refine s_if 188 183 rfl rfl rfl (fun (h23 : ¬ x14.toInt = 0) => ?_) (fun (h23 : ¬ (¬ x14.toInt = 0)) => ?_)
                · --
                  refine s_i (pc1 := 189) (ls1 := [some (.ref 65), some (.int bo), some (.int f), some (.int t), some (.int more), some (.int c), some (.int dd), some (.int x9), some (.int x14), some (.int x17)]) (st1 := []) rfl rfl fun x24 e25 => ?_
                  have e25t : x24.toInt = 1 := by rw [e25]; rfl
                  refine aw_step (f1 := (193, [some (.ref 65), some (.int bo), some (.int f), some (.int t), some (.int more), some (.int c), some (.int dd), some (.int x9), some (.int x14), some (.int x17)], [(.int x24)])) (w1 := w) rfl rfl ?_
                  refine aw_step (f1 := (195, [some (.ref 65), some (.int bo), some (.int f), some (.int t), some (.int x24), some (.int c), some (.int dd), some (.int x9), some (.int x14), some (.int x17)], [])) (w1 := w) rfl rfl ?_
                  refine aw_step (f1 := (198, [some (.ref 65), some (.int bo), some (.int f), some (.int t), some (.int x24), some (.int c), some (.int (dd + Int32.ofInt 1)), some (.int x9), some (.int x14), some (.int x17)], [])) (w1 := w) rfl rfl ?_
                  obtain ⟨x26, x26e⟩ : ∃ z, z = (dd + Int32.ofInt 1) := ⟨_, rfl⟩
                  have x26t : x26.toInt = dd.toInt + (1) := by rw [x26e]; exact n_add (y := Int32.ofInt (1)) (by show _ ≤ _ + (1 : Int); omega) (by show _ + (1 : Int) ≤ _; omega)
                  rw [← x26e]
                  refine aw_step (f1 := (48, [some (.ref 65), some (.int bo), some (.int f), some (.int t), some (.int x24), some (.int c), some (.int x26), some (.int x9), some (.int x14), some (.int x17)], [])) (w1 := w) rfl rfl ?_
                  exact ih w x24 x26 _ _ _ (by omega) (by omega) (by omega) J (by omega) (by omega)
                · --
                  refine aw_step (f1 := (185, [some (.ref 65), some (.int bo), some (.int f), some (.int t), some (.int more), some (.int c), some (.int dd), some (.int x9), some (.int x14), some (.int x17)], [(.int x17)])) (w1 := w) rfl rfl ?_
                  refine s_if 192 188 rfl rfl rfl (fun (h27 : x17.toInt = 0) => ?_) (fun (h27 : ¬ (x17.toInt = 0)) => ?_)
                  · --
                    refine s_i (pc1 := 193) (ls1 := [some (.ref 65), some (.int bo), some (.int f), some (.int t), some (.int more), some (.int c), some (.int dd), some (.int x9), some (.int x14), some (.int x17)]) (st1 := []) rfl rfl fun x28 e29 => ?_
                    have e29t : x28.toInt = 0 := by rw [e29]; rfl
                    refine aw_step (f1 := (195, [some (.ref 65), some (.int bo), some (.int f), some (.int t), some (.int x28), some (.int c), some (.int dd), some (.int x9), some (.int x14), some (.int x17)], [])) (w1 := w) rfl rfl ?_
                    refine aw_step (f1 := (198, [some (.ref 65), some (.int bo), some (.int f), some (.int t), some (.int x28), some (.int c), some (.int (dd + Int32.ofInt 1)), some (.int x9), some (.int x14), some (.int x17)], [])) (w1 := w) rfl rfl ?_
                    obtain ⟨x30, x30e⟩ : ∃ z, z = (dd + Int32.ofInt 1) := ⟨_, rfl⟩
                    have x30t : x30.toInt = dd.toInt + (1) := by rw [x30e]; exact n_add (y := Int32.ofInt (1)) (by show _ ≤ _ + (1 : Int); omega) (by show _ + (1 : Int) ≤ _; omega)
                    rw [← x30e]
                    refine aw_step (f1 := (48, [some (.ref 65), some (.int bo), some (.int f), some (.int t), some (.int x28), some (.int c), some (.int x30), some (.int x9), some (.int x14), some (.int x17)], [])) (w1 := w) rfl rfl ?_
                    exact ih w x28 x30 _ _ _ (by omega) (by omega) (by omega) J (by omega) (by omega)
                  · --
                    refine s_i (pc1 := 189) (ls1 := [some (.ref 65), some (.int bo), some (.int f), some (.int t), some (.int more), some (.int c), some (.int dd), some (.int x9), some (.int x14), some (.int x17)]) (st1 := []) rfl rfl fun x31 e32 => ?_
                    have e32t : x31.toInt = 1 := by rw [e32]; rfl
                    refine aw_step (f1 := (193, [some (.ref 65), some (.int bo), some (.int f), some (.int t), some (.int more), some (.int c), some (.int dd), some (.int x9), some (.int x14), some (.int x17)], [(.int x31)])) (w1 := w) rfl rfl ?_
                    refine aw_step (f1 := (195, [some (.ref 65), some (.int bo), some (.int f), some (.int t), some (.int x31), some (.int c), some (.int dd), some (.int x9), some (.int x14), some (.int x17)], [])) (w1 := w) rfl rfl ?_
                    refine aw_step (f1 := (198, [some (.ref 65), some (.int bo), some (.int f), some (.int t), some (.int x31), some (.int c), some (.int (dd + Int32.ofInt 1)), some (.int x9), some (.int x14), some (.int x17)], [])) (w1 := w) rfl rfl ?_
                    obtain ⟨x33, x33e⟩ : ∃ z, z = (dd + Int32.ofInt 1) := ⟨_, rfl⟩
                    have x33t : x33.toInt = dd.toInt + (1) := by rw [x33e]; exact n_add (y := Int32.ofInt (1)) (by show _ ≤ _ + (1 : Int); omega) (by show _ + (1 : Int) ≤ _; omega)
                    rw [← x33e]
                    refine aw_step (f1 := (48, [some (.ref 65), some (.int bo), some (.int f), some (.int t), some (.int x31), some (.int c), some (.int x33), some (.int x9), some (.int x14), some (.int x17)], [])) (w1 := w) rfl rfl ?_
                    exact ih w x31 x33 _ _ _ (by omega) (by omega) (by omega) J (by omega) (by omega)
            · --
              refine aw_step (f1 := (146, [some (.ref 65), some (.int bo), some (.int f), some (.int t), some (.int more), some (.int c), some (.int dd), some (.int x9), some (.int x14), o9], [(.ref 65)])) (w1 := w) rfl rfl ?_
              refine aw_step (f1 := (148, [some (.ref 65), some (.int bo), some (.int f), some (.int t), some (.int more), some (.int c), some (.int dd), some (.int x9), some (.int x14), o9], [(.int dd), (.ref 65)])) (w1 := w) rfl rfl ?_
              refine aw_step (f1 := (149, [some (.ref 65), some (.int bo), some (.int f), some (.int t), some (.int more), some (.int c), some (.int dd), some (.int x9), some (.int x14), o9], [(.ref 65), (.int dd), (.ref 65)])) (w1 := w) rfl rfl ?_
              refine s_gr 78 J 152 rfl rfl rfl rfl rfl rfl ?_
              refine aw_step (f1 := (154, [some (.ref 65), some (.int bo), some (.int f), some (.int t), some (.int more), some (.int c), some (.int dd), some (.int x9), some (.int x14), o9], [(.int c), (.ref 78), (.int dd), (.ref 65)])) (w1 := w) rfl rfl ?_
              refine s_ia J 155 rfl rfl rfl rfl (by omega) (by omega) fun x34 x34a x34b x34f => ?_
              refine aw_step (f1 := (156, [some (.ref 65), some (.int bo), some (.int f), some (.int t), some (.int more), some (.int c), some (.int dd), some (.int x9), some (.int x14), o9], [(.ref 65), (.int x34), (.int dd), (.ref 65)])) (w1 := w) rfl rfl ?_
              refine s_gi J 159 rfl rfl rfl rfl rfl rfl fun x35 x35a x35b x35f => ?_
              refine s_i (pc1 := 160) (ls1 := [some (.ref 65), some (.int bo), some (.int f), some (.int t), some (.int more), some (.int c), some (.int dd), some (.int x9), some (.int x14), o9]) (st1 := [(.int dd), (.ref 65)]) rfl rfl fun x36 e37 => ?_
              have e37 : x36 = x34 + x35 := e37
              have e37t : x36.toInt = x34.toInt + x35.toInt := by rw [e37]; exact n_add (by omega) (by omega)
              refine s_cv (z := 147) (p := 65) (as := [(.int dd), (.int x36)]) (st1 := []) J 163 rfl rfl rfl rfl rfl rfl rfl rfl (Nat.le_of_ble_eq_true rfl) (Nat.le_of_ble_eq_true rfl) (q_cheapen dd x36 ⟨by omega, by omega⟩ (by omega) J.1) ?_
              rintro _ w39 ⟨x38, rfl, J40c, w39o, w39p⟩
              have J40 := J.trans J40c
              refine ⟨am_len2 J J40c, ?_⟩
              show aw none _ 151 _ (163, [some (.ref 65), some (.int bo), some (.int f), some (.int t), some (.int more), some (.int c), some (.int dd), some (.int x9), some (.int x14), o9], [(.int x38)]) w39
              have w39s := w39p.s (by omega)
              have w39z := w39o.sz (by decide)
              refine s_if 170 166 rfl rfl rfl (fun (h41 : x38.toInt = 0) => ?_) (fun (h41 : ¬ (x38.toInt = 0)) => ?_)
              · --
                refine s_i (pc1 := 171) (ls1 := [some (.ref 65), some (.int bo), some (.int f), some (.int t), some (.int more), some (.int c), some (.int dd), some (.int x9), some (.int x14), o9]) (st1 := []) rfl rfl fun x42 e43 => ?_
                have e43t : x42.toInt = 0 := by rw [e43]; rfl
                refine aw_step (f1 := (173, [some (.ref 65), some (.int bo), some (.int f), some (.int t), some (.int more), some (.int c), some (.int dd), some (.int x9), some (.int x14), some (.int x42)], [])) (w1 := w39) rfl rfl ?_
                refine aw_step (f1 := (175, [some (.ref 65), some (.int bo), some (.int f), some (.int t), some (.int more), some (.int c), some (.int dd), some (.int x9), some (.int x14), some (.int x42)], [(.int more)])) (w1 := w39) rfl rfl ?_
                refine s_if 188 178 rfl rfl rfl (fun (h44 : ¬ more.toInt = 0) => ?_) (fun (h44 : ¬ (¬ more.toInt = 0)) => ?_)
                · --
                  refine s_i (pc1 := 189) (ls1 := [some (.ref 65), some (.int bo), some (.int f), some (.int t), some (.int more), some (.int c), some (.int dd), some (.int x9), some (.int x14), some (.int x42)]) (st1 := []) rfl rfl fun x45 e46 => ?_
                  have e46t : x45.toInt = 1 := by rw [e46]; rfl
                  refine aw_step (f1 := (193, [some (.ref 65), some (.int bo), some (.int f), some (.int t), some (.int more), some (.int c), some (.int dd), some (.int x9), some (.int x14), some (.int x42)], [(.int x45)])) (w1 := w39) rfl rfl ?_
                  refine aw_step (f1 := (195, [some (.ref 65), some (.int bo), some (.int f), some (.int t), some (.int x45), some (.int c), some (.int dd), some (.int x9), some (.int x14), some (.int x42)], [])) (w1 := w39) rfl rfl ?_
                  refine aw_step (f1 := (198, [some (.ref 65), some (.int bo), some (.int f), some (.int t), some (.int x45), some (.int c), some (.int (dd + Int32.ofInt 1)), some (.int x9), some (.int x14), some (.int x42)], [])) (w1 := w39) rfl rfl ?_
                  obtain ⟨x47, x47e⟩ : ∃ z, z = (dd + Int32.ofInt 1) := ⟨_, rfl⟩
                  have x47t : x47.toInt = dd.toInt + (1) := by rw [x47e]; exact n_add (y := Int32.ofInt (1)) (by show _ ≤ _ + (1 : Int); omega) (by show _ + (1 : Int) ≤ _; omega)
                  rw [← x47e]
                  refine aw_step (f1 := (48, [some (.ref 65), some (.int bo), some (.int f), some (.int t), some (.int x45), some (.int c), some (.int x47), some (.int x9), some (.int x14), some (.int x42)], [])) (w1 := w39) rfl rfl ?_
                  exact ih w39 x45 x47 _ _ _ (by omega) (by omega) (by omega) J40 (by omega) (by omega)
                · --
                  refine aw_step (f1 := (180, [some (.ref 65), some (.int bo), some (.int f), some (.int t), some (.int more), some (.int c), some (.int dd), some (.int x9), some (.int x14), some (.int x42)], [(.int x14)])) (w1 := w39) rfl rfl ?_
                  refine s_if 188 183 rfl rfl rfl (fun (h48 : ¬ x14.toInt = 0) => ?_) (fun (h48 : ¬ (¬ x14.toInt = 0)) => ?_)
                  · --
                    refine s_i (pc1 := 189) (ls1 := [some (.ref 65), some (.int bo), some (.int f), some (.int t), some (.int more), some (.int c), some (.int dd), some (.int x9), some (.int x14), some (.int x42)]) (st1 := []) rfl rfl fun x49 e50 => ?_
                    have e50t : x49.toInt = 1 := by rw [e50]; rfl
                    refine aw_step (f1 := (193, [some (.ref 65), some (.int bo), some (.int f), some (.int t), some (.int more), some (.int c), some (.int dd), some (.int x9), some (.int x14), some (.int x42)], [(.int x49)])) (w1 := w39) rfl rfl ?_
                    refine aw_step (f1 := (195, [some (.ref 65), some (.int bo), some (.int f), some (.int t), some (.int x49), some (.int c), some (.int dd), some (.int x9), some (.int x14), some (.int x42)], [])) (w1 := w39) rfl rfl ?_
                    refine aw_step (f1 := (198, [some (.ref 65), some (.int bo), some (.int f), some (.int t), some (.int x49), some (.int c), some (.int (dd + Int32.ofInt 1)), some (.int x9), some (.int x14), some (.int x42)], [])) (w1 := w39) rfl rfl ?_
                    obtain ⟨x51, x51e⟩ : ∃ z, z = (dd + Int32.ofInt 1) := ⟨_, rfl⟩
                    have x51t : x51.toInt = dd.toInt + (1) := by rw [x51e]; exact n_add (y := Int32.ofInt (1)) (by show _ ≤ _ + (1 : Int); omega) (by show _ + (1 : Int) ≤ _; omega)
                    rw [← x51e]
                    refine aw_step (f1 := (48, [some (.ref 65), some (.int bo), some (.int f), some (.int t), some (.int x49), some (.int c), some (.int x51), some (.int x9), some (.int x14), some (.int x42)], [])) (w1 := w39) rfl rfl ?_
                    exact ih w39 x49 x51 _ _ _ (by omega) (by omega) (by omega) J40 (by omega) (by omega)
                  · --
                    refine aw_step (f1 := (185, [some (.ref 65), some (.int bo), some (.int f), some (.int t), some (.int more), some (.int c), some (.int dd), some (.int x9), some (.int x14), some (.int x42)], [(.int x42)])) (w1 := w39) rfl rfl ?_
                    refine s_if 192 188 rfl rfl rfl (fun (h52 : x42.toInt = 0) => ?_) (fun (h52 : ¬ (x42.toInt = 0)) => ?_)
                    · --
                      refine s_i (pc1 := 193) (ls1 := [some (.ref 65), some (.int bo), some (.int f), some (.int t), some (.int more), some (.int c), some (.int dd), some (.int x9), some (.int x14), some (.int x42)]) (st1 := []) rfl rfl fun x53 e54 => ?_
                      have e54t : x53.toInt = 0 := by rw [e54]; rfl
                      refine aw_step (f1 := (195, [some (.ref 65), some (.int bo), some (.int f), some (.int t), some (.int x53), some (.int c), some (.int dd), some (.int x9), some (.int x14), some (.int x42)], [])) (w1 := w39) rfl rfl ?_
                      refine aw_step (f1 := (198, [some (.ref 65), some (.int bo), some (.int f), some (.int t), some (.int x53), some (.int c), some (.int (dd + Int32.ofInt 1)), some (.int x9), some (.int x14), some (.int x42)], [])) (w1 := w39) rfl rfl ?_
                      obtain ⟨x55, x55e⟩ : ∃ z, z = (dd + Int32.ofInt 1) := ⟨_, rfl⟩
                      have x55t : x55.toInt = dd.toInt + (1) := by rw [x55e]; exact n_add (y := Int32.ofInt (1)) (by show _ ≤ _ + (1 : Int); omega) (by show _ + (1 : Int) ≤ _; omega)
                      rw [← x55e]
                      refine aw_step (f1 := (48, [some (.ref 65), some (.int bo), some (.int f), some (.int t), some (.int x53), some (.int c), some (.int x55), some (.int x9), some (.int x14), some (.int x42)], [])) (w1 := w39) rfl rfl ?_
                      exact ih w39 x53 x55 _ _ _ (by omega) (by omega) (by omega) J40 (by omega) (by omega)
                    · --
                      refine s_i (pc1 := 189) (ls1 := [some (.ref 65), some (.int bo), some (.int f), some (.int t), some (.int more), some (.int c), some (.int dd), some (.int x9), some (.int x14), some (.int x42)]) (st1 := []) rfl rfl fun x56 e57 => ?_
                      have e57t : x56.toInt = 1 := by rw [e57]; rfl
                      refine aw_step (f1 := (193, [some (.ref 65), some (.int bo), some (.int f), some (.int t), some (.int more), some (.int c), some (.int dd), some (.int x9), some (.int x14), some (.int x42)], [(.int x56)])) (w1 := w39) rfl rfl ?_
                      refine aw_step (f1 := (195, [some (.ref 65), some (.int bo), some (.int f), some (.int t), some (.int x56), some (.int c), some (.int dd), some (.int x9), some (.int x14), some (.int x42)], [])) (w1 := w39) rfl rfl ?_
                      refine aw_step (f1 := (198, [some (.ref 65), some (.int bo), some (.int f), some (.int t), some (.int x56), some (.int c), some (.int (dd + Int32.ofInt 1)), some (.int x9), some (.int x14), some (.int x42)], [])) (w1 := w39) rfl rfl ?_
                      obtain ⟨x58, x58e⟩ : ∃ z, z = (dd + Int32.ofInt 1) := ⟨_, rfl⟩
                      have x58t : x58.toInt = dd.toInt + (1) := by rw [x58e]; exact n_add (y := Int32.ofInt (1)) (by show _ ≤ _ + (1 : Int); omega) (by show _ + (1 : Int) ≤ _; omega)
                      rw [← x58e]
                      refine aw_step (f1 := (48, [some (.ref 65), some (.int bo), some (.int f), some (.int t), some (.int x56), some (.int c), some (.int x58), some (.int x9), some (.int x14), some (.int x42)], [])) (w1 := w39) rfl rfl ?_
                      exact ih w39 x56 x58 _ _ _ (by omega) (by omega) (by omega) J40 (by omega) (by omega)
              · --
                refine s_i (pc1 := 167) (ls1 := [some (.ref 65), some (.int bo), some (.int f), some (.int t), some (.int more), some (.int c), some (.int dd), some (.int x9), some (.int x14), o9]) (st1 := []) rfl rfl fun x59 e60 => ?_
                have e60t : x59.toInt = 1 := by rw [e60]; rfl
                refine aw_step (f1 := (171, [some (.ref 65), some (.int bo), some (.int f), some (.int t), some (.int more), some (.int c), some (.int dd), some (.int x9), some (.int x14), o9], [(.int x59)])) (w1 := w39) rfl rfl ?_
                refine aw_step (f1 := (173, [some (.ref 65), some (.int bo), some (.int f), some (.int t), some (.int more), some (.int c), some (.int dd), some (.int x9), some (.int x14), some (.int x59)], [])) (w1 := w39) rfl rfl ?_
                refine aw_step (f1 := (175, [some (.ref 65), some (.int bo), some (.int f), some (.int t), some (.int more), some (.int c), some (.int dd), some (.int x9), some (.int x14), some (.int x59)], [(.int more)])) (w1 := w39) rfl rfl ?_
                refine s_if 188 178 rfl rfl rfl (fun (h61 : ¬ more.toInt = 0) => ?_) (fun (h61 : ¬ (¬ more.toInt = 0)) => ?_)
                · --
                  refine s_i (pc1 := 189) (ls1 := [some (.ref 65), some (.int bo), some (.int f), some (.int t), some (.int more), some (.int c), some (.int dd), some (.int x9), some (.int x14), some (.int x59)]) (st1 := []) rfl rfl fun x62 e63 => ?_
                  have e63t : x62.toInt = 1 := by rw [e63]; rfl
                  refine aw_step (f1 := (193, [some (.ref 65), some (.int bo), some (.int f), some (.int t), some (.int more), some (.int c), some (.int dd), some (.int x9), some (.int x14), some (.int x59)], [(.int x62)])) (w1 := w39) rfl rfl ?_
                  refine aw_step (f1 := (195, [some (.ref 65), some (.int bo), some (.int f), some (.int t), some (.int x62), some (.int c), some (.int dd), some (.int x9), some (.int x14), some (.int x59)], [])) (w1 := w39) rfl rfl ?_
                  refine aw_step (f1 := (198, [some (.ref 65), some (.int bo), some (.int f), some (.int t), some (.int x62), some (.int c), some (.int (dd + Int32.ofInt 1)), some (.int x9), some (.int x14), some (.int x59)], [])) (w1 := w39) rfl rfl ?_
                  obtain ⟨x64, x64e⟩ : ∃ z, z = (dd + Int32.ofInt 1) := ⟨_, rfl⟩
                  have x64t : x64.toInt = dd.toInt + (1) := by rw [x64e]; exact n_add (y := Int32.ofInt (1)) (by show _ ≤ _ + (1 : Int); omega) (by show _ + (1 : Int) ≤ _; omega)
                  rw [← x64e]
                  refine aw_step (f1 := (48, [some (.ref 65), some (.int bo), some (.int f), some (.int t), some (.int x62), some (.int c), some (.int x64), some (.int x9), some (.int x14), some (.int x59)], [])) (w1 := w39) rfl rfl ?_
                  exact ih w39 x62 x64 _ _ _ (by omega) (by omega) (by omega) J40 (by omega) (by omega)
                · --
                  refine aw_step (f1 := (180, [some (.ref 65), some (.int bo), some (.int f), some (.int t), some (.int more), some (.int c), some (.int dd), some (.int x9), some (.int x14), some (.int x59)], [(.int x14)])) (w1 := w39) rfl rfl ?_
                  refine s_if 188 183 rfl rfl rfl (fun (h65 : ¬ x14.toInt = 0) => ?_) (fun (h65 : ¬ (¬ x14.toInt = 0)) => ?_)
                  · --
                    refine s_i (pc1 := 189) (ls1 := [some (.ref 65), some (.int bo), some (.int f), some (.int t), some (.int more), some (.int c), some (.int dd), some (.int x9), some (.int x14), some (.int x59)]) (st1 := []) rfl rfl fun x66 e67 => ?_
                    have e67t : x66.toInt = 1 := by rw [e67]; rfl
                    refine aw_step (f1 := (193, [some (.ref 65), some (.int bo), some (.int f), some (.int t), some (.int more), some (.int c), some (.int dd), some (.int x9), some (.int x14), some (.int x59)], [(.int x66)])) (w1 := w39) rfl rfl ?_
                    refine aw_step (f1 := (195, [some (.ref 65), some (.int bo), some (.int f), some (.int t), some (.int x66), some (.int c), some (.int dd), some (.int x9), some (.int x14), some (.int x59)], [])) (w1 := w39) rfl rfl ?_
                    refine aw_step (f1 := (198, [some (.ref 65), some (.int bo), some (.int f), some (.int t), some (.int x66), some (.int c), some (.int (dd + Int32.ofInt 1)), some (.int x9), some (.int x14), some (.int x59)], [])) (w1 := w39) rfl rfl ?_
                    obtain ⟨x68, x68e⟩ : ∃ z, z = (dd + Int32.ofInt 1) := ⟨_, rfl⟩
                    have x68t : x68.toInt = dd.toInt + (1) := by rw [x68e]; exact n_add (y := Int32.ofInt (1)) (by show _ ≤ _ + (1 : Int); omega) (by show _ + (1 : Int) ≤ _; omega)
                    rw [← x68e]
                    refine aw_step (f1 := (48, [some (.ref 65), some (.int bo), some (.int f), some (.int t), some (.int x66), some (.int c), some (.int x68), some (.int x9), some (.int x14), some (.int x59)], [])) (w1 := w39) rfl rfl ?_
                    exact ih w39 x66 x68 _ _ _ (by omega) (by omega) (by omega) J40 (by omega) (by omega)
                  · --
                    refine aw_step (f1 := (185, [some (.ref 65), some (.int bo), some (.int f), some (.int t), some (.int more), some (.int c), some (.int dd), some (.int x9), some (.int x14), some (.int x59)], [(.int x59)])) (w1 := w39) rfl rfl ?_
                    refine s_if 192 188 rfl rfl rfl (fun (h69 : x59.toInt = 0) => ?_) (fun (h69 : ¬ (x59.toInt = 0)) => ?_)
                    · --
                      refine s_i (pc1 := 193) (ls1 := [some (.ref 65), some (.int bo), some (.int f), some (.int t), some (.int more), some (.int c), some (.int dd), some (.int x9), some (.int x14), some (.int x59)]) (st1 := []) rfl rfl fun x70 e71 => ?_
                      have e71t : x70.toInt = 0 := by rw [e71]; rfl
                      refine aw_step (f1 := (195, [some (.ref 65), some (.int bo), some (.int f), some (.int t), some (.int x70), some (.int c), some (.int dd), some (.int x9), some (.int x14), some (.int x59)], [])) (w1 := w39) rfl rfl ?_
                      refine aw_step (f1 := (198, [some (.ref 65), some (.int bo), some (.int f), some (.int t), some (.int x70), some (.int c), some (.int (dd + Int32.ofInt 1)), some (.int x9), some (.int x14), some (.int x59)], [])) (w1 := w39) rfl rfl ?_
                      obtain ⟨x72, x72e⟩ : ∃ z, z = (dd + Int32.ofInt 1) := ⟨_, rfl⟩
                      have x72t : x72.toInt = dd.toInt + (1) := by rw [x72e]; exact n_add (y := Int32.ofInt (1)) (by show _ ≤ _ + (1 : Int); omega) (by show _ + (1 : Int) ≤ _; omega)
                      rw [← x72e]
                      refine aw_step (f1 := (48, [some (.ref 65), some (.int bo), some (.int f), some (.int t), some (.int x70), some (.int c), some (.int x72), some (.int x9), some (.int x14), some (.int x59)], [])) (w1 := w39) rfl rfl ?_
                      exact ih w39 x70 x72 _ _ _ (by omega) (by omega) (by omega) J40 (by omega) (by omega)
                    · --
                      refine s_i (pc1 := 189) (ls1 := [some (.ref 65), some (.int bo), some (.int f), some (.int t), some (.int more), some (.int c), some (.int dd), some (.int x9), some (.int x14), some (.int x59)]) (st1 := []) rfl rfl fun x73 e74 => ?_
                      have e74t : x73.toInt = 1 := by rw [e74]; rfl
                      refine aw_step (f1 := (193, [some (.ref 65), some (.int bo), some (.int f), some (.int t), some (.int more), some (.int c), some (.int dd), some (.int x9), some (.int x14), some (.int x59)], [(.int x73)])) (w1 := w39) rfl rfl ?_
                      refine aw_step (f1 := (195, [some (.ref 65), some (.int bo), some (.int f), some (.int t), some (.int x73), some (.int c), some (.int dd), some (.int x9), some (.int x14), some (.int x59)], [])) (w1 := w39) rfl rfl ?_
                      refine aw_step (f1 := (198, [some (.ref 65), some (.int bo), some (.int f), some (.int t), some (.int x73), some (.int c), some (.int (dd + Int32.ofInt 1)), some (.int x9), some (.int x14), some (.int x59)], [])) (w1 := w39) rfl rfl ?_
                      obtain ⟨x75, x75e⟩ : ∃ z, z = (dd + Int32.ofInt 1) := ⟨_, rfl⟩
                      have x75t : x75.toInt = dd.toInt + (1) := by rw [x75e]; exact n_add (y := Int32.ofInt (1)) (by show _ ≤ _ + (1 : Int); omega) (by show _ + (1 : Int) ≤ _; omega)
                      rw [← x75e]
                      refine aw_step (f1 := (48, [some (.ref 65), some (.int bo), some (.int f), some (.int t), some (.int x73), some (.int c), some (.int x75), some (.int x9), some (.int x14), some (.int x59)], [])) (w1 := w39) rfl rfl ?_
                      exact ih w39 x73 x75 _ _ _ (by omega) (by omega) (by omega) J40 (by omega) (by omega)
          · --
            refine aw_step (f1 := (113, [some (.ref 65), some (.int bo), some (.int f), some (.int t), some (.int more), some (.int c), some (.int dd), some (.int x9), o8, o9], [(.ref 65)])) (w1 := w) rfl rfl ?_
            refine aw_step (f1 := (115, [some (.ref 65), some (.int bo), some (.int f), some (.int t), some (.int more), some (.int c), some (.int dd), some (.int x9), o8, o9], [(.int dd), (.ref 65)])) (w1 := w) rfl rfl ?_
            refine aw_step (f1 := (116, [some (.ref 65), some (.int bo), some (.int f), some (.int t), some (.int more), some (.int c), some (.int dd), some (.int x9), o8, o9], [(.ref 65), (.int dd), (.ref 65)])) (w1 := w) rfl rfl ?_
            refine s_gr 78 J 119 rfl rfl rfl rfl rfl rfl ?_
            refine aw_step (f1 := (121, [some (.ref 65), some (.int bo), some (.int f), some (.int t), some (.int more), some (.int c), some (.int dd), some (.int x9), o8, o9], [(.int c), (.ref 78), (.int dd), (.ref 65)])) (w1 := w) rfl rfl ?_
            refine s_ia J 122 rfl rfl rfl rfl (by omega) (by omega) fun x76 x76a x76b x76f => ?_
            refine aw_step (f1 := (123, [some (.ref 65), some (.int bo), some (.int f), some (.int t), some (.int more), some (.int c), some (.int dd), some (.int x9), o8, o9], [(.ref 65), (.int x76), (.int dd), (.ref 65)])) (w1 := w) rfl rfl ?_
            refine s_gi J 126 rfl rfl rfl rfl rfl rfl fun x77 x77a x77b x77f => ?_
            refine s_i (pc1 := 127) (ls1 := [some (.ref 65), some (.int bo), some (.int f), some (.int t), some (.int more), some (.int c), some (.int dd), some (.int x9), o8, o9]) (st1 := [(.int dd), (.ref 65)]) rfl rfl fun x78 e79 => ?_
            have e79 : x78 = x76 + x77 := e79
            have e79t : x78.toInt = x76.toInt + x77.toInt := by rw [e79]; exact n_add (by omega) (by omega)
            refine s_cv (z := 147) (p := 65) (as := [(.int dd), (.int x78)]) (st1 := []) J 130 rfl rfl rfl rfl rfl rfl rfl rfl (Nat.le_of_ble_eq_true rfl) (Nat.le_of_ble_eq_true rfl) (q_cheapen dd x78 ⟨by omega, by omega⟩ (by omega) J.1) ?_
            rintro _ w81 ⟨x80, rfl, J82c, w81o, w81p⟩
            have J82 := J.trans J82c
            refine ⟨am_len2 J J82c, ?_⟩
            show aw none _ 151 _ (130, [some (.ref 65), some (.int bo), some (.int f), some (.int t), some (.int more), some (.int c), some (.int dd), some (.int x9), o8, o9], [(.int x80)]) w81
            have w81s := w81p.s (by omega)
            have w81z := w81o.sz (by decide)
            refine s_if 137 133 rfl rfl rfl (fun (h83 : x80.toInt = 0) => ?_) (fun (h83 : ¬ (x80.toInt = 0)) => ?_)
            · --
              refine s_i (pc1 := 138) (ls1 := [some (.ref 65), some (.int bo), some (.int f), some (.int t), some (.int more), some (.int c), some (.int dd), some (.int x9), o8, o9]) (st1 := []) rfl rfl fun x84 e85 => ?_
              have e85t : x84.toInt = 0 := by rw [e85]; rfl
              refine aw_step (f1 := (140, [some (.ref 65), some (.int bo), some (.int f), some (.int t), some (.int more), some (.int c), some (.int dd), some (.int x9), some (.int x84), o9], [])) (w1 := w81) rfl rfl ?_
              refine aw_step (f1 := (142, [some (.ref 65), some (.int bo), some (.int f), some (.int t), some (.int more), some (.int c), some (.int dd), some (.int x9), some (.int x84), o9], [(.int x9)])) (w1 := w81) rfl rfl ?_
              refine s_if 170 145 rfl rfl rfl (fun (h86 : x9.toInt = 0) => ?_) (fun (h86 : ¬ (x9.toInt = 0)) => ?_)
              · --
                refine s_i (pc1 := 171) (ls1 := [some (.ref 65), some (.int bo), some (.int f), some (.int t), some (.int more), some (.int c), some (.int dd), some (.int x9), some (.int x84), o9]) (st1 := []) rfl rfl fun x87 e88 => ?_
                have e88t : x87.toInt = 0 := by rw [e88]; rfl
                refine aw_step (f1 := (173, [some (.ref 65), some (.int bo), some (.int f), some (.int t), some (.int more), some (.int c), some (.int dd), some (.int x9), some (.int x84), some (.int x87)], [])) (w1 := w81) rfl rfl ?_
                refine aw_step (f1 := (175, [some (.ref 65), some (.int bo), some (.int f), some (.int t), some (.int more), some (.int c), some (.int dd), some (.int x9), some (.int x84), some (.int x87)], [(.int more)])) (w1 := w81) rfl rfl ?_
                refine s_if 188 178 rfl rfl rfl (fun (h89 : ¬ more.toInt = 0) => ?_) (fun (h89 : ¬ (¬ more.toInt = 0)) => ?_)
                · --
                  refine s_i (pc1 := 189) (ls1 := [some (.ref 65), some (.int bo), some (.int f), some (.int t), some (.int more), some (.int c), some (.int dd), some (.int x9), some (.int x84), some (.int x87)]) (st1 := []) rfl rfl fun x90 e91 => ?_
                  have e91t : x90.toInt = 1 := by rw [e91]; rfl
                  refine aw_step (f1 := (193, [some (.ref 65), some (.int bo), some (.int f), some (.int t), some (.int more), some (.int c), some (.int dd), some (.int x9), some (.int x84), some (.int x87)], [(.int x90)])) (w1 := w81) rfl rfl ?_
                  refine aw_step (f1 := (195, [some (.ref 65), some (.int bo), some (.int f), some (.int t), some (.int x90), some (.int c), some (.int dd), some (.int x9), some (.int x84), some (.int x87)], [])) (w1 := w81) rfl rfl ?_
                  refine aw_step (f1 := (198, [some (.ref 65), some (.int bo), some (.int f), some (.int t), some (.int x90), some (.int c), some (.int (dd + Int32.ofInt 1)), some (.int x9), some (.int x84), some (.int x87)], [])) (w1 := w81) rfl rfl ?_
                  obtain ⟨x92, x92e⟩ : ∃ z, z = (dd + Int32.ofInt 1) := ⟨_, rfl⟩
                  have x92t : x92.toInt = dd.toInt + (1) := by rw [x92e]; exact n_add (y := Int32.ofInt (1)) (by show _ ≤ _ + (1 : Int); omega) (by show _ + (1 : Int) ≤ _; omega)
                  rw [← x92e]
                  refine aw_step (f1 := (48, [some (.ref 65), some (.int bo), some (.int f), some (.int t), some (.int x90), some (.int c), some (.int x92), some (.int x9), some (.int x84), some (.int x87)], [])) (w1 := w81) rfl rfl ?_
                  exact ih w81 x90 x92 _ _ _ (by omega) (by omega) (by omega) J82 (by omega) (by omega)
                · --
                  refine aw_step (f1 := (180, [some (.ref 65), some (.int bo), some (.int f), some (.int t), some (.int more), some (.int c), some (.int dd), some (.int x9), some (.int x84), some (.int x87)], [(.int x84)])) (w1 := w81) rfl rfl ?_
                  refine s_if 188 183 rfl rfl rfl (fun (h93 : ¬ x84.toInt = 0) => ?_) (fun (h93 : ¬ (¬ x84.toInt = 0)) => ?_)
                  · --
                    refine s_i (pc1 := 189) (ls1 := [some (.ref 65), some (.int bo), some (.int f), some (.int t), some (.int more), some (.int c), some (.int dd), some (.int x9), some (.int x84), some (.int x87)]) (st1 := []) rfl rfl fun x94 e95 => ?_
                    have e95t : x94.toInt = 1 := by rw [e95]; rfl
                    refine aw_step (f1 := (193, [some (.ref 65), some (.int bo), some (.int f), some (.int t), some (.int more), some (.int c), some (.int dd), some (.int x9), some (.int x84), some (.int x87)], [(.int x94)])) (w1 := w81) rfl rfl ?_
                    refine aw_step (f1 := (195, [some (.ref 65), some (.int bo), some (.int f), some (.int t), some (.int x94), some (.int c), some (.int dd), some (.int x9), some (.int x84), some (.int x87)], [])) (w1 := w81) rfl rfl ?_
                    refine aw_step (f1 := (198, [some (.ref 65), some (.int bo), some (.int f), some (.int t), some (.int x94), some (.int c), some (.int (dd + Int32.ofInt 1)), some (.int x9), some (.int x84), some (.int x87)], [])) (w1 := w81) rfl rfl ?_
                    obtain ⟨x96, x96e⟩ : ∃ z, z = (dd + Int32.ofInt 1) := ⟨_, rfl⟩
                    have x96t : x96.toInt = dd.toInt + (1) := by rw [x96e]; exact n_add (y := Int32.ofInt (1)) (by show _ ≤ _ + (1 : Int); omega) (by show _ + (1 : Int) ≤ _; omega)
                    rw [← x96e]
                    refine aw_step (f1 := (48, [some (.ref 65), some (.int bo), some (.int f), some (.int t), some (.int x94), some (.int c), some (.int x96), some (.int x9), some (.int x84), some (.int x87)], [])) (w1 := w81) rfl rfl ?_
                    exact ih w81 x94 x96 _ _ _ (by omega) (by omega) (by omega) J82 (by omega) (by omega)
                  · --
                    refine aw_step (f1 := (185, [some (.ref 65), some (.int bo), some (.int f), some (.int t), some (.int more), some (.int c), some (.int dd), some (.int x9), some (.int x84), some (.int x87)], [(.int x87)])) (w1 := w81) rfl rfl ?_
                    refine s_if 192 188 rfl rfl rfl (fun (h97 : x87.toInt = 0) => ?_) (fun (h97 : ¬ (x87.toInt = 0)) => ?_)
                    · --
                      refine s_i (pc1 := 193) (ls1 := [some (.ref 65), some (.int bo), some (.int f), some (.int t), some (.int more), some (.int c), some (.int dd), some (.int x9), some (.int x84), some (.int x87)]) (st1 := []) rfl rfl fun x98 e99 => ?_
                      have e99t : x98.toInt = 0 := by rw [e99]; rfl
                      refine aw_step (f1 := (195, [some (.ref 65), some (.int bo), some (.int f), some (.int t), some (.int x98), some (.int c), some (.int dd), some (.int x9), some (.int x84), some (.int x87)], [])) (w1 := w81) rfl rfl ?_
                      refine aw_step (f1 := (198, [some (.ref 65), some (.int bo), some (.int f), some (.int t), some (.int x98), some (.int c), some (.int (dd + Int32.ofInt 1)), some (.int x9), some (.int x84), some (.int x87)], [])) (w1 := w81) rfl rfl ?_
                      obtain ⟨x100, x100e⟩ : ∃ z, z = (dd + Int32.ofInt 1) := ⟨_, rfl⟩
                      have x100t : x100.toInt = dd.toInt + (1) := by rw [x100e]; exact n_add (y := Int32.ofInt (1)) (by show _ ≤ _ + (1 : Int); omega) (by show _ + (1 : Int) ≤ _; omega)
                      rw [← x100e]
                      refine aw_step (f1 := (48, [some (.ref 65), some (.int bo), some (.int f), some (.int t), some (.int x98), some (.int c), some (.int x100), some (.int x9), some (.int x84), some (.int x87)], [])) (w1 := w81) rfl rfl ?_
                      exact ih w81 x98 x100 _ _ _ (by omega) (by omega) (by omega) J82 (by omega) (by omega)
                    · --
                      refine s_i (pc1 := 189) (ls1 := [some (.ref 65), some (.int bo), some (.int f), some (.int t), some (.int more), some (.int c), some (.int dd), some (.int x9), some (.int x84), some (.int x87)]) (st1 := []) rfl rfl fun x101 e102 => ?_
                      have e102t : x101.toInt = 1 := by rw [e102]; rfl
                      refine aw_step (f1 := (193, [some (.ref 65), some (.int bo), some (.int f), some (.int t), some (.int more), some (.int c), some (.int dd), some (.int x9), some (.int x84), some (.int x87)], [(.int x101)])) (w1 := w81) rfl rfl ?_
                      refine aw_step (f1 := (195, [some (.ref 65), some (.int bo), some (.int f), some (.int t), some (.int x101), some (.int c), some (.int dd), some (.int x9), some (.int x84), some (.int x87)], [])) (w1 := w81) rfl rfl ?_
                      refine aw_step (f1 := (198, [some (.ref 65), some (.int bo), some (.int f), some (.int t), some (.int x101), some (.int c), some (.int (dd + Int32.ofInt 1)), some (.int x9), some (.int x84), some (.int x87)], [])) (w1 := w81) rfl rfl ?_
                      obtain ⟨x103, x103e⟩ : ∃ z, z = (dd + Int32.ofInt 1) := ⟨_, rfl⟩
                      have x103t : x103.toInt = dd.toInt + (1) := by rw [x103e]; exact n_add (y := Int32.ofInt (1)) (by show _ ≤ _ + (1 : Int); omega) (by show _ + (1 : Int) ≤ _; omega)
                      rw [← x103e]
                      refine aw_step (f1 := (48, [some (.ref 65), some (.int bo), some (.int f), some (.int t), some (.int x101), some (.int c), some (.int x103), some (.int x9), some (.int x84), some (.int x87)], [])) (w1 := w81) rfl rfl ?_
                      exact ih w81 x101 x103 _ _ _ (by omega) (by omega) (by omega) J82 (by omega) (by omega)
              · --
                refine aw_step (f1 := (146, [some (.ref 65), some (.int bo), some (.int f), some (.int t), some (.int more), some (.int c), some (.int dd), some (.int x9), some (.int x84), o9], [(.ref 65)])) (w1 := w81) rfl rfl ?_
                refine aw_step (f1 := (148, [some (.ref 65), some (.int bo), some (.int f), some (.int t), some (.int more), some (.int c), some (.int dd), some (.int x9), some (.int x84), o9], [(.int dd), (.ref 65)])) (w1 := w81) rfl rfl ?_
                refine aw_step (f1 := (149, [some (.ref 65), some (.int bo), some (.int f), some (.int t), some (.int more), some (.int c), some (.int dd), some (.int x9), some (.int x84), o9], [(.ref 65), (.int dd), (.ref 65)])) (w1 := w81) rfl rfl ?_
                refine s_gr 78 J82 152 rfl rfl rfl rfl rfl rfl ?_
                refine aw_step (f1 := (154, [some (.ref 65), some (.int bo), some (.int f), some (.int t), some (.int more), some (.int c), some (.int dd), some (.int x9), some (.int x84), o9], [(.int c), (.ref 78), (.int dd), (.ref 65)])) (w1 := w81) rfl rfl ?_
                refine s_ia J82 155 rfl rfl rfl rfl (by omega) (by omega) fun x104 x104a x104b x104f => ?_
                refine aw_step (f1 := (156, [some (.ref 65), some (.int bo), some (.int f), some (.int t), some (.int more), some (.int c), some (.int dd), some (.int x9), some (.int x84), o9], [(.ref 65), (.int x104), (.int dd), (.ref 65)])) (w1 := w81) rfl rfl ?_
                refine s_gi J82 159 rfl rfl rfl rfl rfl rfl fun x105 x105a x105b x105f => ?_
                refine s_i (pc1 := 160) (ls1 := [some (.ref 65), some (.int bo), some (.int f), some (.int t), some (.int more), some (.int c), some (.int dd), some (.int x9), some (.int x84), o9]) (st1 := [(.int dd), (.ref 65)]) rfl rfl fun x106 e107 => ?_
                have e107 : x106 = x104 + x105 := e107
                have e107t : x106.toInt = x104.toInt + x105.toInt := by rw [e107]; exact n_add (by omega) (by omega)
                refine s_cv (z := 147) (p := 65) (as := [(.int dd), (.int x106)]) (st1 := []) J82 163 rfl rfl rfl rfl rfl rfl rfl rfl (Nat.le_of_ble_eq_true rfl) (Nat.le_of_ble_eq_true rfl) (q_cheapen dd x106 ⟨by omega, by omega⟩ (by omega) J82.1) ?_
                rintro _ w109 ⟨x108, rfl, J110c, w109o, w109p⟩
                have J110 := J82.trans J110c
                refine ⟨am_len2 J82 J110c, ?_⟩
                show aw none _ 151 _ (163, [some (.ref 65), some (.int bo), some (.int f), some (.int t), some (.int more), some (.int c), some (.int dd), some (.int x9), some (.int x84), o9], [(.int x108)]) w109
                have w109s := w109p.s (by omega)
                have w109z := w109o.sz (by decide)
                refine s_if 170 166 rfl rfl rfl (fun (h111 : x108.toInt = 0) => ?_) (fun (h111 : ¬ (x108.toInt = 0)) => ?_)
                · --
                  refine s_i (pc1 := 171) (ls1 := [some (.ref 65), some (.int bo), some (.int f), some (.int t), some (.int more), some (.int c), some (.int dd), some (.int x9), some (.int x84), o9]) (st1 := []) rfl rfl fun x112 e113 => ?_
                  have e113t : x112.toInt = 0 := by rw [e113]; rfl
                  refine aw_step (f1 := (173, [some (.ref 65), some (.int bo), some (.int f), some (.int t), some (.int more), some (.int c), some (.int dd), some (.int x9), some (.int x84), some (.int x112)], [])) (w1 := w109) rfl rfl ?_
                  refine aw_step (f1 := (175, [some (.ref 65), some (.int bo), some (.int f), some (.int t), some (.int more), some (.int c), some (.int dd), some (.int x9), some (.int x84), some (.int x112)], [(.int more)])) (w1 := w109) rfl rfl ?_
                  refine s_if 188 178 rfl rfl rfl (fun (h114 : ¬ more.toInt = 0) => ?_) (fun (h114 : ¬ (¬ more.toInt = 0)) => ?_)
                  · --
                    refine s_i (pc1 := 189) (ls1 := [some (.ref 65), some (.int bo), some (.int f), some (.int t), some (.int more), some (.int c), some (.int dd), some (.int x9), some (.int x84), some (.int x112)]) (st1 := []) rfl rfl fun x115 e116 => ?_
                    have e116t : x115.toInt = 1 := by rw [e116]; rfl
                    refine aw_step (f1 := (193, [some (.ref 65), some (.int bo), some (.int f), some (.int t), some (.int more), some (.int c), some (.int dd), some (.int x9), some (.int x84), some (.int x112)], [(.int x115)])) (w1 := w109) rfl rfl ?_
                    refine aw_step (f1 := (195, [some (.ref 65), some (.int bo), some (.int f), some (.int t), some (.int x115), some (.int c), some (.int dd), some (.int x9), some (.int x84), some (.int x112)], [])) (w1 := w109) rfl rfl ?_
                    refine aw_step (f1 := (198, [some (.ref 65), some (.int bo), some (.int f), some (.int t), some (.int x115), some (.int c), some (.int (dd + Int32.ofInt 1)), some (.int x9), some (.int x84), some (.int x112)], [])) (w1 := w109) rfl rfl ?_
                    obtain ⟨x117, x117e⟩ : ∃ z, z = (dd + Int32.ofInt 1) := ⟨_, rfl⟩
                    have x117t : x117.toInt = dd.toInt + (1) := by rw [x117e]; exact n_add (y := Int32.ofInt (1)) (by show _ ≤ _ + (1 : Int); omega) (by show _ + (1 : Int) ≤ _; omega)
                    rw [← x117e]
                    refine aw_step (f1 := (48, [some (.ref 65), some (.int bo), some (.int f), some (.int t), some (.int x115), some (.int c), some (.int x117), some (.int x9), some (.int x84), some (.int x112)], [])) (w1 := w109) rfl rfl ?_
                    exact ih w109 x115 x117 _ _ _ (by omega) (by omega) (by omega) J110 (by omega) (by omega)
                  · --
                    refine aw_step (f1 := (180, [some (.ref 65), some (.int bo), some (.int f), some (.int t), some (.int more), some (.int c), some (.int dd), some (.int x9), some (.int x84), some (.int x112)], [(.int x84)])) (w1 := w109) rfl rfl ?_
                    refine s_if 188 183 rfl rfl rfl (fun (h118 : ¬ x84.toInt = 0) => ?_) (fun (h118 : ¬ (¬ x84.toInt = 0)) => ?_)
                    · --
                      refine s_i (pc1 := 189) (ls1 := [some (.ref 65), some (.int bo), some (.int f), some (.int t), some (.int more), some (.int c), some (.int dd), some (.int x9), some (.int x84), some (.int x112)]) (st1 := []) rfl rfl fun x119 e120 => ?_
                      have e120t : x119.toInt = 1 := by rw [e120]; rfl
                      refine aw_step (f1 := (193, [some (.ref 65), some (.int bo), some (.int f), some (.int t), some (.int more), some (.int c), some (.int dd), some (.int x9), some (.int x84), some (.int x112)], [(.int x119)])) (w1 := w109) rfl rfl ?_
                      refine aw_step (f1 := (195, [some (.ref 65), some (.int bo), some (.int f), some (.int t), some (.int x119), some (.int c), some (.int dd), some (.int x9), some (.int x84), some (.int x112)], [])) (w1 := w109) rfl rfl ?_
                      refine aw_step (f1 := (198, [some (.ref 65), some (.int bo), some (.int f), some (.int t), some (.int x119), some (.int c), some (.int (dd + Int32.ofInt 1)), some (.int x9), some (.int x84), some (.int x112)], [])) (w1 := w109) rfl rfl ?_
                      obtain ⟨x121, x121e⟩ : ∃ z, z = (dd + Int32.ofInt 1) := ⟨_, rfl⟩
                      have x121t : x121.toInt = dd.toInt + (1) := by rw [x121e]; exact n_add (y := Int32.ofInt (1)) (by show _ ≤ _ + (1 : Int); omega) (by show _ + (1 : Int) ≤ _; omega)
                      rw [← x121e]
                      refine aw_step (f1 := (48, [some (.ref 65), some (.int bo), some (.int f), some (.int t), some (.int x119), some (.int c), some (.int x121), some (.int x9), some (.int x84), some (.int x112)], [])) (w1 := w109) rfl rfl ?_
                      exact ih w109 x119 x121 _ _ _ (by omega) (by omega) (by omega) J110 (by omega) (by omega)
                    · --
                      refine aw_step (f1 := (185, [some (.ref 65), some (.int bo), some (.int f), some (.int t), some (.int more), some (.int c), some (.int dd), some (.int x9), some (.int x84), some (.int x112)], [(.int x112)])) (w1 := w109) rfl rfl ?_
                      refine s_if 192 188 rfl rfl rfl (fun (h122 : x112.toInt = 0) => ?_) (fun (h122 : ¬ (x112.toInt = 0)) => ?_)
                      · --
                        refine s_i (pc1 := 193) (ls1 := [some (.ref 65), some (.int bo), some (.int f), some (.int t), some (.int more), some (.int c), some (.int dd), some (.int x9), some (.int x84), some (.int x112)]) (st1 := []) rfl rfl fun x123 e124 => ?_
                        have e124t : x123.toInt = 0 := by rw [e124]; rfl
                        refine aw_step (f1 := (195, [some (.ref 65), some (.int bo), some (.int f), some (.int t), some (.int x123), some (.int c), some (.int dd), some (.int x9), some (.int x84), some (.int x112)], [])) (w1 := w109) rfl rfl ?_
                        refine aw_step (f1 := (198, [some (.ref 65), some (.int bo), some (.int f), some (.int t), some (.int x123), some (.int c), some (.int (dd + Int32.ofInt 1)), some (.int x9), some (.int x84), some (.int x112)], [])) (w1 := w109) rfl rfl ?_
                        obtain ⟨x125, x125e⟩ : ∃ z, z = (dd + Int32.ofInt 1) := ⟨_, rfl⟩
                        have x125t : x125.toInt = dd.toInt + (1) := by rw [x125e]; exact n_add (y := Int32.ofInt (1)) (by show _ ≤ _ + (1 : Int); omega) (by show _ + (1 : Int) ≤ _; omega)
                        rw [← x125e]
                        refine aw_step (f1 := (48, [some (.ref 65), some (.int bo), some (.int f), some (.int t), some (.int x123), some (.int c), some (.int x125), some (.int x9), some (.int x84), some (.int x112)], [])) (w1 := w109) rfl rfl ?_
                        exact ih w109 x123 x125 _ _ _ (by omega) (by omega) (by omega) J110 (by omega) (by omega)
                      · --
                        refine s_i (pc1 := 189) (ls1 := [some (.ref 65), some (.int bo), some (.int f), some (.int t), some (.int more), some (.int c), some (.int dd), some (.int x9), some (.int x84), some (.int x112)]) (st1 := []) rfl rfl fun x126 e127 => ?_
                        have e127t : x126.toInt = 1 := by rw [e127]; rfl
                        refine aw_step (f1 := (193, [some (.ref 65), some (.int bo), some (.int f), some (.int t), some (.int more), some (.int c), some (.int dd), some (.int x9), some (.int x84), some (.int x112)], [(.int x126)])) (w1 := w109) rfl rfl ?_
                        refine aw_step (f1 := (195, [some (.ref 65), some (.int bo), some (.int f), some (.int t), some (.int x126), some (.int c), some (.int dd), some (.int x9), some (.int x84), some (.int x112)], [])) (w1 := w109) rfl rfl ?_
                        refine aw_step (f1 := (198, [some (.ref 65), some (.int bo), some (.int f), some (.int t), some (.int x126), some (.int c), some (.int (dd + Int32.ofInt 1)), some (.int x9), some (.int x84), some (.int x112)], [])) (w1 := w109) rfl rfl ?_
                        obtain ⟨x128, x128e⟩ : ∃ z, z = (dd + Int32.ofInt 1) := ⟨_, rfl⟩
                        have x128t : x128.toInt = dd.toInt + (1) := by rw [x128e]; exact n_add (y := Int32.ofInt (1)) (by show _ ≤ _ + (1 : Int); omega) (by show _ + (1 : Int) ≤ _; omega)
                        rw [← x128e]
                        refine aw_step (f1 := (48, [some (.ref 65), some (.int bo), some (.int f), some (.int t), some (.int x126), some (.int c), some (.int x128), some (.int x9), some (.int x84), some (.int x112)], [])) (w1 := w109) rfl rfl ?_
                        exact ih w109 x126 x128 _ _ _ (by omega) (by omega) (by omega) J110 (by omega) (by omega)
                · --
                  refine s_i (pc1 := 167) (ls1 := [some (.ref 65), some (.int bo), some (.int f), some (.int t), some (.int more), some (.int c), some (.int dd), some (.int x9), some (.int x84), o9]) (st1 := []) rfl rfl fun x129 e130 => ?_
                  have e130t : x129.toInt = 1 := by rw [e130]; rfl
                  refine aw_step (f1 := (171, [some (.ref 65), some (.int bo), some (.int f), some (.int t), some (.int more), some (.int c), some (.int dd), some (.int x9), some (.int x84), o9], [(.int x129)])) (w1 := w109) rfl rfl ?_
                  refine aw_step (f1 := (173, [some (.ref 65), some (.int bo), some (.int f), some (.int t), some (.int more), some (.int c), some (.int dd), some (.int x9), some (.int x84), some (.int x129)], [])) (w1 := w109) rfl rfl ?_
                  refine aw_step (f1 := (175, [some (.ref 65), some (.int bo), some (.int f), some (.int t), some (.int more), some (.int c), some (.int dd), some (.int x9), some (.int x84), some (.int x129)], [(.int more)])) (w1 := w109) rfl rfl ?_
                  refine s_if 188 178 rfl rfl rfl (fun (h131 : ¬ more.toInt = 0) => ?_) (fun (h131 : ¬ (¬ more.toInt = 0)) => ?_)
                  · --
                    refine s_i (pc1 := 189) (ls1 := [some (.ref 65), some (.int bo), some (.int f), some (.int t), some (.int more), some (.int c), some (.int dd), some (.int x9), some (.int x84), some (.int x129)]) (st1 := []) rfl rfl fun x132 e133 => ?_
                    have e133t : x132.toInt = 1 := by rw [e133]; rfl
                    refine aw_step (f1 := (193, [some (.ref 65), some (.int bo), some (.int f), some (.int t), some (.int more), some (.int c), some (.int dd), some (.int x9), some (.int x84), some (.int x129)], [(.int x132)])) (w1 := w109) rfl rfl ?_
                    refine aw_step (f1 := (195, [some (.ref 65), some (.int bo), some (.int f), some (.int t), some (.int x132), some (.int c), some (.int dd), some (.int x9), some (.int x84), some (.int x129)], [])) (w1 := w109) rfl rfl ?_
                    refine aw_step (f1 := (198, [some (.ref 65), some (.int bo), some (.int f), some (.int t), some (.int x132), some (.int c), some (.int (dd + Int32.ofInt 1)), some (.int x9), some (.int x84), some (.int x129)], [])) (w1 := w109) rfl rfl ?_
                    obtain ⟨x134, x134e⟩ : ∃ z, z = (dd + Int32.ofInt 1) := ⟨_, rfl⟩
                    have x134t : x134.toInt = dd.toInt + (1) := by rw [x134e]; exact n_add (y := Int32.ofInt (1)) (by show _ ≤ _ + (1 : Int); omega) (by show _ + (1 : Int) ≤ _; omega)
                    rw [← x134e]
                    refine aw_step (f1 := (48, [some (.ref 65), some (.int bo), some (.int f), some (.int t), some (.int x132), some (.int c), some (.int x134), some (.int x9), some (.int x84), some (.int x129)], [])) (w1 := w109) rfl rfl ?_
                    exact ih w109 x132 x134 _ _ _ (by omega) (by omega) (by omega) J110 (by omega) (by omega)
                  · --
                    refine aw_step (f1 := (180, [some (.ref 65), some (.int bo), some (.int f), some (.int t), some (.int more), some (.int c), some (.int dd), some (.int x9), some (.int x84), some (.int x129)], [(.int x84)])) (w1 := w109) rfl rfl ?_
                    refine s_if 188 183 rfl rfl rfl (fun (h135 : ¬ x84.toInt = 0) => ?_) (fun (h135 : ¬ (¬ x84.toInt = 0)) => ?_)
                    · --
                      refine s_i (pc1 := 189) (ls1 := [some (.ref 65), some (.int bo), some (.int f), some (.int t), some (.int more), some (.int c), some (.int dd), some (.int x9), some (.int x84), some (.int x129)]) (st1 := []) rfl rfl fun x136 e137 => ?_
                      have e137t : x136.toInt = 1 := by rw [e137]; rfl
                      refine aw_step (f1 := (193, [some (.ref 65), some (.int bo), some (.int f), some (.int t), some (.int more), some (.int c), some (.int dd), some (.int x9), some (.int x84), some (.int x129)], [(.int x136)])) (w1 := w109) rfl rfl ?_
                      refine aw_step (f1 := (195, [some (.ref 65), some (.int bo), some (.int f), some (.int t), some (.int x136), some (.int c), some (.int dd), some (.int x9), some (.int x84), some (.int x129)], [])) (w1 := w109) rfl rfl ?_
                      refine aw_step (f1 := (198, [some (.ref 65), some (.int bo), some (.int f), some (.int t), some (.int x136), some (.int c), some (.int (dd + Int32.ofInt 1)), some (.int x9), some (.int x84), some (.int x129)], [])) (w1 := w109) rfl rfl ?_
                      obtain ⟨x138, x138e⟩ : ∃ z, z = (dd + Int32.ofInt 1) := ⟨_, rfl⟩
                      have x138t : x138.toInt = dd.toInt + (1) := by rw [x138e]; exact n_add (y := Int32.ofInt (1)) (by show _ ≤ _ + (1 : Int); omega) (by show _ + (1 : Int) ≤ _; omega)
                      rw [← x138e]
                      refine aw_step (f1 := (48, [some (.ref 65), some (.int bo), some (.int f), some (.int t), some (.int x136), some (.int c), some (.int x138), some (.int x9), some (.int x84), some (.int x129)], [])) (w1 := w109) rfl rfl ?_
                      exact ih w109 x136 x138 _ _ _ (by omega) (by omega) (by omega) J110 (by omega) (by omega)
                    · --
                      refine aw_step (f1 := (185, [some (.ref 65), some (.int bo), some (.int f), some (.int t), some (.int more), some (.int c), some (.int dd), some (.int x9), some (.int x84), some (.int x129)], [(.int x129)])) (w1 := w109) rfl rfl ?_
                      refine s_if 192 188 rfl rfl rfl (fun (h139 : x129.toInt = 0) => ?_) (fun (h139 : ¬ (x129.toInt = 0)) => ?_)
                      · --
                        refine s_i (pc1 := 193) (ls1 := [some (.ref 65), some (.int bo), some (.int f), some (.int t), some (.int more), some (.int c), some (.int dd), some (.int x9), some (.int x84), some (.int x129)]) (st1 := []) rfl rfl fun x140 e141 => ?_
                        have e141t : x140.toInt = 0 := by rw [e141]; rfl
                        refine aw_step (f1 := (195, [some (.ref 65), some (.int bo), some (.int f), some (.int t), some (.int x140), some (.int c), some (.int dd), some (.int x9), some (.int x84), some (.int x129)], [])) (w1 := w109) rfl rfl ?_
                        refine aw_step (f1 := (198, [some (.ref 65), some (.int bo), some (.int f), some (.int t), some (.int x140), some (.int c), some (.int (dd + Int32.ofInt 1)), some (.int x9), some (.int x84), some (.int x129)], [])) (w1 := w109) rfl rfl ?_
                        obtain ⟨x142, x142e⟩ : ∃ z, z = (dd + Int32.ofInt 1) := ⟨_, rfl⟩
                        have x142t : x142.toInt = dd.toInt + (1) := by rw [x142e]; exact n_add (y := Int32.ofInt (1)) (by show _ ≤ _ + (1 : Int); omega) (by show _ + (1 : Int) ≤ _; omega)
                        rw [← x142e]
                        refine aw_step (f1 := (48, [some (.ref 65), some (.int bo), some (.int f), some (.int t), some (.int x140), some (.int c), some (.int x142), some (.int x9), some (.int x84), some (.int x129)], [])) (w1 := w109) rfl rfl ?_
                        exact ih w109 x140 x142 _ _ _ (by omega) (by omega) (by omega) J110 (by omega) (by omega)
                      · --
                        refine s_i (pc1 := 189) (ls1 := [some (.ref 65), some (.int bo), some (.int f), some (.int t), some (.int more), some (.int c), some (.int dd), some (.int x9), some (.int x84), some (.int x129)]) (st1 := []) rfl rfl fun x143 e144 => ?_
                        have e144t : x143.toInt = 1 := by rw [e144]; rfl
                        refine aw_step (f1 := (193, [some (.ref 65), some (.int bo), some (.int f), some (.int t), some (.int more), some (.int c), some (.int dd), some (.int x9), some (.int x84), some (.int x129)], [(.int x143)])) (w1 := w109) rfl rfl ?_
                        refine aw_step (f1 := (195, [some (.ref 65), some (.int bo), some (.int f), some (.int t), some (.int x143), some (.int c), some (.int dd), some (.int x9), some (.int x84), some (.int x129)], [])) (w1 := w109) rfl rfl ?_
                        refine aw_step (f1 := (198, [some (.ref 65), some (.int bo), some (.int f), some (.int t), some (.int x143), some (.int c), some (.int (dd + Int32.ofInt 1)), some (.int x9), some (.int x84), some (.int x129)], [])) (w1 := w109) rfl rfl ?_
                        obtain ⟨x145, x145e⟩ : ∃ z, z = (dd + Int32.ofInt 1) := ⟨_, rfl⟩
                        have x145t : x145.toInt = dd.toInt + (1) := by rw [x145e]; exact n_add (y := Int32.ofInt (1)) (by show _ ≤ _ + (1 : Int); omega) (by show _ + (1 : Int) ≤ _; omega)
                        rw [← x145e]
                        refine aw_step (f1 := (48, [some (.ref 65), some (.int bo), some (.int f), some (.int t), some (.int x143), some (.int c), some (.int x145), some (.int x9), some (.int x84), some (.int x129)], [])) (w1 := w109) rfl rfl ?_
                        exact ih w109 x143 x145 _ _ _ (by omega) (by omega) (by omega) J110 (by omega) (by omega)
            · --
              refine s_i (pc1 := 134) (ls1 := [some (.ref 65), some (.int bo), some (.int f), some (.int t), some (.int more), some (.int c), some (.int dd), some (.int x9), o8, o9]) (st1 := []) rfl rfl fun x146 e147 => ?_
              have e147t : x146.toInt = 1 := by rw [e147]; rfl
              refine aw_step (f1 := (138, [some (.ref 65), some (.int bo), some (.int f), some (.int t), some (.int more), some (.int c), some (.int dd), some (.int x9), o8, o9], [(.int x146)])) (w1 := w81) rfl rfl ?_
              refine aw_step (f1 := (140, [some (.ref 65), some (.int bo), some (.int f), some (.int t), some (.int more), some (.int c), some (.int dd), some (.int x9), some (.int x146), o9], [])) (w1 := w81) rfl rfl ?_
              refine aw_step (f1 := (142, [some (.ref 65), some (.int bo), some (.int f), some (.int t), some (.int more), some (.int c), some (.int dd), some (.int x9), some (.int x146), o9], [(.int x9)])) (w1 := w81) rfl rfl ?_
              refine s_if 170 145 rfl rfl rfl (fun (h148 : x9.toInt = 0) => ?_) (fun (h148 : ¬ (x9.toInt = 0)) => ?_)
              · --
                refine s_i (pc1 := 171) (ls1 := [some (.ref 65), some (.int bo), some (.int f), some (.int t), some (.int more), some (.int c), some (.int dd), some (.int x9), some (.int x146), o9]) (st1 := []) rfl rfl fun x149 e150 => ?_
                have e150t : x149.toInt = 0 := by rw [e150]; rfl
                refine aw_step (f1 := (173, [some (.ref 65), some (.int bo), some (.int f), some (.int t), some (.int more), some (.int c), some (.int dd), some (.int x9), some (.int x146), some (.int x149)], [])) (w1 := w81) rfl rfl ?_
                refine aw_step (f1 := (175, [some (.ref 65), some (.int bo), some (.int f), some (.int t), some (.int more), some (.int c), some (.int dd), some (.int x9), some (.int x146), some (.int x149)], [(.int more)])) (w1 := w81) rfl rfl ?_
                refine s_if 188 178 rfl rfl rfl (fun (h151 : ¬ more.toInt = 0) => ?_) (fun (h151 : ¬ (¬ more.toInt = 0)) => ?_)
                · --
                  refine s_i (pc1 := 189) (ls1 := [some (.ref 65), some (.int bo), some (.int f), some (.int t), some (.int more), some (.int c), some (.int dd), some (.int x9), some (.int x146), some (.int x149)]) (st1 := []) rfl rfl fun x152 e153 => ?_
                  have e153t : x152.toInt = 1 := by rw [e153]; rfl
                  refine aw_step (f1 := (193, [some (.ref 65), some (.int bo), some (.int f), some (.int t), some (.int more), some (.int c), some (.int dd), some (.int x9), some (.int x146), some (.int x149)], [(.int x152)])) (w1 := w81) rfl rfl ?_
                  refine aw_step (f1 := (195, [some (.ref 65), some (.int bo), some (.int f), some (.int t), some (.int x152), some (.int c), some (.int dd), some (.int x9), some (.int x146), some (.int x149)], [])) (w1 := w81) rfl rfl ?_
                  refine aw_step (f1 := (198, [some (.ref 65), some (.int bo), some (.int f), some (.int t), some (.int x152), some (.int c), some (.int (dd + Int32.ofInt 1)), some (.int x9), some (.int x146), some (.int x149)], [])) (w1 := w81) rfl rfl ?_
                  obtain ⟨x154, x154e⟩ : ∃ z, z = (dd + Int32.ofInt 1) := ⟨_, rfl⟩
                  have x154t : x154.toInt = dd.toInt + (1) := by rw [x154e]; exact n_add (y := Int32.ofInt (1)) (by show _ ≤ _ + (1 : Int); omega) (by show _ + (1 : Int) ≤ _; omega)
                  rw [← x154e]
                  refine aw_step (f1 := (48, [some (.ref 65), some (.int bo), some (.int f), some (.int t), some (.int x152), some (.int c), some (.int x154), some (.int x9), some (.int x146), some (.int x149)], [])) (w1 := w81) rfl rfl ?_
                  exact ih w81 x152 x154 _ _ _ (by omega) (by omega) (by omega) J82 (by omega) (by omega)
                · --
                  refine aw_step (f1 := (180, [some (.ref 65), some (.int bo), some (.int f), some (.int t), some (.int more), some (.int c), some (.int dd), some (.int x9), some (.int x146), some (.int x149)], [(.int x146)])) (w1 := w81) rfl rfl ?_
                  refine s_if 188 183 rfl rfl rfl (fun (h155 : ¬ x146.toInt = 0) => ?_) (fun (h155 : ¬ (¬ x146.toInt = 0)) => ?_)
                  · --
                    refine s_i (pc1 := 189) (ls1 := [some (.ref 65), some (.int bo), some (.int f), some (.int t), some (.int more), some (.int c), some (.int dd), some (.int x9), some (.int x146), some (.int x149)]) (st1 := []) rfl rfl fun x156 e157 => ?_
                    have e157t : x156.toInt = 1 := by rw [e157]; rfl
                    refine aw_step (f1 := (193, [some (.ref 65), some (.int bo), some (.int f), some (.int t), some (.int more), some (.int c), some (.int dd), some (.int x9), some (.int x146), some (.int x149)], [(.int x156)])) (w1 := w81) rfl rfl ?_
                    refine aw_step (f1 := (195, [some (.ref 65), some (.int bo), some (.int f), some (.int t), some (.int x156), some (.int c), some (.int dd), some (.int x9), some (.int x146), some (.int x149)], [])) (w1 := w81) rfl rfl ?_
                    refine aw_step (f1 := (198, [some (.ref 65), some (.int bo), some (.int f), some (.int t), some (.int x156), some (.int c), some (.int (dd + Int32.ofInt 1)), some (.int x9), some (.int x146), some (.int x149)], [])) (w1 := w81) rfl rfl ?_
                    obtain ⟨x158, x158e⟩ : ∃ z, z = (dd + Int32.ofInt 1) := ⟨_, rfl⟩
                    have x158t : x158.toInt = dd.toInt + (1) := by rw [x158e]; exact n_add (y := Int32.ofInt (1)) (by show _ ≤ _ + (1 : Int); omega) (by show _ + (1 : Int) ≤ _; omega)
                    rw [← x158e]
                    refine aw_step (f1 := (48, [some (.ref 65), some (.int bo), some (.int f), some (.int t), some (.int x156), some (.int c), some (.int x158), some (.int x9), some (.int x146), some (.int x149)], [])) (w1 := w81) rfl rfl ?_
                    exact ih w81 x156 x158 _ _ _ (by omega) (by omega) (by omega) J82 (by omega) (by omega)
                  · --
                    refine aw_step (f1 := (185, [some (.ref 65), some (.int bo), some (.int f), some (.int t), some (.int more), some (.int c), some (.int dd), some (.int x9), some (.int x146), some (.int x149)], [(.int x149)])) (w1 := w81) rfl rfl ?_
                    refine s_if 192 188 rfl rfl rfl (fun (h159 : x149.toInt = 0) => ?_) (fun (h159 : ¬ (x149.toInt = 0)) => ?_)
                    · --
                      refine s_i (pc1 := 193) (ls1 := [some (.ref 65), some (.int bo), some (.int f), some (.int t), some (.int more), some (.int c), some (.int dd), some (.int x9), some (.int x146), some (.int x149)]) (st1 := []) rfl rfl fun x160 e161 => ?_
                      have e161t : x160.toInt = 0 := by rw [e161]; rfl
                      refine aw_step (f1 := (195, [some (.ref 65), some (.int bo), some (.int f), some (.int t), some (.int x160), some (.int c), some (.int dd), some (.int x9), some (.int x146), some (.int x149)], [])) (w1 := w81) rfl rfl ?_
                      refine aw_step (f1 := (198, [some (.ref 65), some (.int bo), some (.int f), some (.int t), some (.int x160), some (.int c), some (.int (dd + Int32.ofInt 1)), some (.int x9), some (.int x146), some (.int x149)], [])) (w1 := w81) rfl rfl ?_
                      obtain ⟨x162, x162e⟩ : ∃ z, z = (dd + Int32.ofInt 1) := ⟨_, rfl⟩
                      have x162t : x162.toInt = dd.toInt + (1) := by rw [x162e]; exact n_add (y := Int32.ofInt (1)) (by show _ ≤ _ + (1 : Int); omega) (by show _ + (1 : Int) ≤ _; omega)
                      rw [← x162e]
                      refine aw_step (f1 := (48, [some (.ref 65), some (.int bo), some (.int f), some (.int t), some (.int x160), some (.int c), some (.int x162), some (.int x9), some (.int x146), some (.int x149)], [])) (w1 := w81) rfl rfl ?_
                      exact ih w81 x160 x162 _ _ _ (by omega) (by omega) (by omega) J82 (by omega) (by omega)
                    · --
                      refine s_i (pc1 := 189) (ls1 := [some (.ref 65), some (.int bo), some (.int f), some (.int t), some (.int more), some (.int c), some (.int dd), some (.int x9), some (.int x146), some (.int x149)]) (st1 := []) rfl rfl fun x163 e164 => ?_
                      have e164t : x163.toInt = 1 := by rw [e164]; rfl
                      refine aw_step (f1 := (193, [some (.ref 65), some (.int bo), some (.int f), some (.int t), some (.int more), some (.int c), some (.int dd), some (.int x9), some (.int x146), some (.int x149)], [(.int x163)])) (w1 := w81) rfl rfl ?_
                      refine aw_step (f1 := (195, [some (.ref 65), some (.int bo), some (.int f), some (.int t), some (.int x163), some (.int c), some (.int dd), some (.int x9), some (.int x146), some (.int x149)], [])) (w1 := w81) rfl rfl ?_
                      refine aw_step (f1 := (198, [some (.ref 65), some (.int bo), some (.int f), some (.int t), some (.int x163), some (.int c), some (.int (dd + Int32.ofInt 1)), some (.int x9), some (.int x146), some (.int x149)], [])) (w1 := w81) rfl rfl ?_
                      obtain ⟨x165, x165e⟩ : ∃ z, z = (dd + Int32.ofInt 1) := ⟨_, rfl⟩
                      have x165t : x165.toInt = dd.toInt + (1) := by rw [x165e]; exact n_add (y := Int32.ofInt (1)) (by show _ ≤ _ + (1 : Int); omega) (by show _ + (1 : Int) ≤ _; omega)
                      rw [← x165e]
                      refine aw_step (f1 := (48, [some (.ref 65), some (.int bo), some (.int f), some (.int t), some (.int x163), some (.int c), some (.int x165), some (.int x9), some (.int x146), some (.int x149)], [])) (w1 := w81) rfl rfl ?_
                      exact ih w81 x163 x165 _ _ _ (by omega) (by omega) (by omega) J82 (by omega) (by omega)
              · --
                refine aw_step (f1 := (146, [some (.ref 65), some (.int bo), some (.int f), some (.int t), some (.int more), some (.int c), some (.int dd), some (.int x9), some (.int x146), o9], [(.ref 65)])) (w1 := w81) rfl rfl ?_
                refine aw_step (f1 := (148, [some (.ref 65), some (.int bo), some (.int f), some (.int t), some (.int more), some (.int c), some (.int dd), some (.int x9), some (.int x146), o9], [(.int dd), (.ref 65)])) (w1 := w81) rfl rfl ?_
                refine aw_step (f1 := (149, [some (.ref 65), some (.int bo), some (.int f), some (.int t), some (.int more), some (.int c), some (.int dd), some (.int x9), some (.int x146), o9], [(.ref 65), (.int dd), (.ref 65)])) (w1 := w81) rfl rfl ?_
                refine s_gr 78 J82 152 rfl rfl rfl rfl rfl rfl ?_
                refine aw_step (f1 := (154, [some (.ref 65), some (.int bo), some (.int f), some (.int t), some (.int more), some (.int c), some (.int dd), some (.int x9), some (.int x146), o9], [(.int c), (.ref 78), (.int dd), (.ref 65)])) (w1 := w81) rfl rfl ?_
                refine s_ia J82 155 rfl rfl rfl rfl (by omega) (by omega) fun x166 x166a x166b x166f => ?_
                refine aw_step (f1 := (156, [some (.ref 65), some (.int bo), some (.int f), some (.int t), some (.int more), some (.int c), some (.int dd), some (.int x9), some (.int x146), o9], [(.ref 65), (.int x166), (.int dd), (.ref 65)])) (w1 := w81) rfl rfl ?_
                refine s_gi J82 159 rfl rfl rfl rfl rfl rfl fun x167 x167a x167b x167f => ?_
                refine s_i (pc1 := 160) (ls1 := [some (.ref 65), some (.int bo), some (.int f), some (.int t), some (.int more), some (.int c), some (.int dd), some (.int x9), some (.int x146), o9]) (st1 := [(.int dd), (.ref 65)]) rfl rfl fun x168 e169 => ?_
                have e169 : x168 = x166 + x167 := e169
                have e169t : x168.toInt = x166.toInt + x167.toInt := by rw [e169]; exact n_add (by omega) (by omega)
                refine s_cv (z := 147) (p := 65) (as := [(.int dd), (.int x168)]) (st1 := []) J82 163 rfl rfl rfl rfl rfl rfl rfl rfl (Nat.le_of_ble_eq_true rfl) (Nat.le_of_ble_eq_true rfl) (q_cheapen dd x168 ⟨by omega, by omega⟩ (by omega) J82.1) ?_
                rintro _ w171 ⟨x170, rfl, J172c, w171o, w171p⟩
                have J172 := J82.trans J172c
                refine ⟨am_len2 J82 J172c, ?_⟩
                show aw none _ 151 _ (163, [some (.ref 65), some (.int bo), some (.int f), some (.int t), some (.int more), some (.int c), some (.int dd), some (.int x9), some (.int x146), o9], [(.int x170)]) w171
                have w171s := w171p.s (by omega)
                have w171z := w171o.sz (by decide)
                refine s_if 170 166 rfl rfl rfl (fun (h173 : x170.toInt = 0) => ?_) (fun (h173 : ¬ (x170.toInt = 0)) => ?_)
                · --
                  refine s_i (pc1 := 171) (ls1 := [some (.ref 65), some (.int bo), some (.int f), some (.int t), some (.int more), some (.int c), some (.int dd), some (.int x9), some (.int x146), o9]) (st1 := []) rfl rfl fun x174 e175 => ?_
                  have e175t : x174.toInt = 0 := by rw [e175]; rfl
                  refine aw_step (f1 := (173, [some (.ref 65), some (.int bo), some (.int f), some (.int t), some (.int more), some (.int c), some (.int dd), some (.int x9), some (.int x146), some (.int x174)], [])) (w1 := w171) rfl rfl ?_
                  refine aw_step (f1 := (175, [some (.ref 65), some (.int bo), some (.int f), some (.int t), some (.int more), some (.int c), some (.int dd), some (.int x9), some (.int x146), some (.int x174)], [(.int more)])) (w1 := w171) rfl rfl ?_
                  refine s_if 188 178 rfl rfl rfl (fun (h176 : ¬ more.toInt = 0) => ?_) (fun (h176 : ¬ (¬ more.toInt = 0)) => ?_)
                  · --
                    refine s_i (pc1 := 189) (ls1 := [some (.ref 65), some (.int bo), some (.int f), some (.int t), some (.int more), some (.int c), some (.int dd), some (.int x9), some (.int x146), some (.int x174)]) (st1 := []) rfl rfl fun x177 e178 => ?_
                    have e178t : x177.toInt = 1 := by rw [e178]; rfl
                    refine aw_step (f1 := (193, [some (.ref 65), some (.int bo), some (.int f), some (.int t), some (.int more), some (.int c), some (.int dd), some (.int x9), some (.int x146), some (.int x174)], [(.int x177)])) (w1 := w171) rfl rfl ?_
                    refine aw_step (f1 := (195, [some (.ref 65), some (.int bo), some (.int f), some (.int t), some (.int x177), some (.int c), some (.int dd), some (.int x9), some (.int x146), some (.int x174)], [])) (w1 := w171) rfl rfl ?_
                    refine aw_step (f1 := (198, [some (.ref 65), some (.int bo), some (.int f), some (.int t), some (.int x177), some (.int c), some (.int (dd + Int32.ofInt 1)), some (.int x9), some (.int x146), some (.int x174)], [])) (w1 := w171) rfl rfl ?_
                    obtain ⟨x179, x179e⟩ : ∃ z, z = (dd + Int32.ofInt 1) := ⟨_, rfl⟩
                    have x179t : x179.toInt = dd.toInt + (1) := by rw [x179e]; exact n_add (y := Int32.ofInt (1)) (by show _ ≤ _ + (1 : Int); omega) (by show _ + (1 : Int) ≤ _; omega)
                    rw [← x179e]
                    refine aw_step (f1 := (48, [some (.ref 65), some (.int bo), some (.int f), some (.int t), some (.int x177), some (.int c), some (.int x179), some (.int x9), some (.int x146), some (.int x174)], [])) (w1 := w171) rfl rfl ?_
                    exact ih w171 x177 x179 _ _ _ (by omega) (by omega) (by omega) J172 (by omega) (by omega)
                  · --
                    refine aw_step (f1 := (180, [some (.ref 65), some (.int bo), some (.int f), some (.int t), some (.int more), some (.int c), some (.int dd), some (.int x9), some (.int x146), some (.int x174)], [(.int x146)])) (w1 := w171) rfl rfl ?_
                    refine s_if 188 183 rfl rfl rfl (fun (h180 : ¬ x146.toInt = 0) => ?_) (fun (h180 : ¬ (¬ x146.toInt = 0)) => ?_)
                    · --
                      refine s_i (pc1 := 189) (ls1 := [some (.ref 65), some (.int bo), some (.int f), some (.int t), some (.int more), some (.int c), some (.int dd), some (.int x9), some (.int x146), some (.int x174)]) (st1 := []) rfl rfl fun x181 e182 => ?_
                      have e182t : x181.toInt = 1 := by rw [e182]; rfl
                      refine aw_step (f1 := (193, [some (.ref 65), some (.int bo), some (.int f), some (.int t), some (.int more), some (.int c), some (.int dd), some (.int x9), some (.int x146), some (.int x174)], [(.int x181)])) (w1 := w171) rfl rfl ?_
                      refine aw_step (f1 := (195, [some (.ref 65), some (.int bo), some (.int f), some (.int t), some (.int x181), some (.int c), some (.int dd), some (.int x9), some (.int x146), some (.int x174)], [])) (w1 := w171) rfl rfl ?_
                      refine aw_step (f1 := (198, [some (.ref 65), some (.int bo), some (.int f), some (.int t), some (.int x181), some (.int c), some (.int (dd + Int32.ofInt 1)), some (.int x9), some (.int x146), some (.int x174)], [])) (w1 := w171) rfl rfl ?_
                      obtain ⟨x183, x183e⟩ : ∃ z, z = (dd + Int32.ofInt 1) := ⟨_, rfl⟩
                      have x183t : x183.toInt = dd.toInt + (1) := by rw [x183e]; exact n_add (y := Int32.ofInt (1)) (by show _ ≤ _ + (1 : Int); omega) (by show _ + (1 : Int) ≤ _; omega)
                      rw [← x183e]
                      refine aw_step (f1 := (48, [some (.ref 65), some (.int bo), some (.int f), some (.int t), some (.int x181), some (.int c), some (.int x183), some (.int x9), some (.int x146), some (.int x174)], [])) (w1 := w171) rfl rfl ?_
                      exact ih w171 x181 x183 _ _ _ (by omega) (by omega) (by omega) J172 (by omega) (by omega)
                    · --
                      refine aw_step (f1 := (185, [some (.ref 65), some (.int bo), some (.int f), some (.int t), some (.int more), some (.int c), some (.int dd), some (.int x9), some (.int x146), some (.int x174)], [(.int x174)])) (w1 := w171) rfl rfl ?_
                      refine s_if 192 188 rfl rfl rfl (fun (h184 : x174.toInt = 0) => ?_) (fun (h184 : ¬ (x174.toInt = 0)) => ?_)
                      · --
                        refine s_i (pc1 := 193) (ls1 := [some (.ref 65), some (.int bo), some (.int f), some (.int t), some (.int more), some (.int c), some (.int dd), some (.int x9), some (.int x146), some (.int x174)]) (st1 := []) rfl rfl fun x185 e186 => ?_
                        have e186t : x185.toInt = 0 := by rw [e186]; rfl
                        refine aw_step (f1 := (195, [some (.ref 65), some (.int bo), some (.int f), some (.int t), some (.int x185), some (.int c), some (.int dd), some (.int x9), some (.int x146), some (.int x174)], [])) (w1 := w171) rfl rfl ?_
                        refine aw_step (f1 := (198, [some (.ref 65), some (.int bo), some (.int f), some (.int t), some (.int x185), some (.int c), some (.int (dd + Int32.ofInt 1)), some (.int x9), some (.int x146), some (.int x174)], [])) (w1 := w171) rfl rfl ?_
                        obtain ⟨x187, x187e⟩ : ∃ z, z = (dd + Int32.ofInt 1) := ⟨_, rfl⟩
                        have x187t : x187.toInt = dd.toInt + (1) := by rw [x187e]; exact n_add (y := Int32.ofInt (1)) (by show _ ≤ _ + (1 : Int); omega) (by show _ + (1 : Int) ≤ _; omega)
                        rw [← x187e]
                        refine aw_step (f1 := (48, [some (.ref 65), some (.int bo), some (.int f), some (.int t), some (.int x185), some (.int c), some (.int x187), some (.int x9), some (.int x146), some (.int x174)], [])) (w1 := w171) rfl rfl ?_
                        exact ih w171 x185 x187 _ _ _ (by omega) (by omega) (by omega) J172 (by omega) (by omega)
                      · --
                        refine s_i (pc1 := 189) (ls1 := [some (.ref 65), some (.int bo), some (.int f), some (.int t), some (.int more), some (.int c), some (.int dd), some (.int x9), some (.int x146), some (.int x174)]) (st1 := []) rfl rfl fun x188 e189 => ?_
                        have e189t : x188.toInt = 1 := by rw [e189]; rfl
                        refine aw_step (f1 := (193, [some (.ref 65), some (.int bo), some (.int f), some (.int t), some (.int more), some (.int c), some (.int dd), some (.int x9), some (.int x146), some (.int x174)], [(.int x188)])) (w1 := w171) rfl rfl ?_
                        refine aw_step (f1 := (195, [some (.ref 65), some (.int bo), some (.int f), some (.int t), some (.int x188), some (.int c), some (.int dd), some (.int x9), some (.int x146), some (.int x174)], [])) (w1 := w171) rfl rfl ?_
                        refine aw_step (f1 := (198, [some (.ref 65), some (.int bo), some (.int f), some (.int t), some (.int x188), some (.int c), some (.int (dd + Int32.ofInt 1)), some (.int x9), some (.int x146), some (.int x174)], [])) (w1 := w171) rfl rfl ?_
                        obtain ⟨x190, x190e⟩ : ∃ z, z = (dd + Int32.ofInt 1) := ⟨_, rfl⟩
                        have x190t : x190.toInt = dd.toInt + (1) := by rw [x190e]; exact n_add (y := Int32.ofInt (1)) (by show _ ≤ _ + (1 : Int); omega) (by show _ + (1 : Int) ≤ _; omega)
                        rw [← x190e]
                        refine aw_step (f1 := (48, [some (.ref 65), some (.int bo), some (.int f), some (.int t), some (.int x188), some (.int c), some (.int x190), some (.int x9), some (.int x146), some (.int x174)], [])) (w1 := w171) rfl rfl ?_
                        exact ih w171 x188 x190 _ _ _ (by omega) (by omega) (by omega) J172 (by omega) (by omega)
                · --
                  refine s_i (pc1 := 167) (ls1 := [some (.ref 65), some (.int bo), some (.int f), some (.int t), some (.int more), some (.int c), some (.int dd), some (.int x9), some (.int x146), o9]) (st1 := []) rfl rfl fun x191 e192 => ?_
                  have e192t : x191.toInt = 1 := by rw [e192]; rfl
                  refine aw_step (f1 := (171, [some (.ref 65), some (.int bo), some (.int f), some (.int t), some (.int more), some (.int c), some (.int dd), some (.int x9), some (.int x146), o9], [(.int x191)])) (w1 := w171) rfl rfl ?_
                  refine aw_step (f1 := (173, [some (.ref 65), some (.int bo), some (.int f), some (.int t), some (.int more), some (.int c), some (.int dd), some (.int x9), some (.int x146), some (.int x191)], [])) (w1 := w171) rfl rfl ?_
                  refine aw_step (f1 := (175, [some (.ref 65), some (.int bo), some (.int f), some (.int t), some (.int more), some (.int c), some (.int dd), some (.int x9), some (.int x146), some (.int x191)], [(.int more)])) (w1 := w171) rfl rfl ?_
                  refine s_if 188 178 rfl rfl rfl (fun (h193 : ¬ more.toInt = 0) => ?_) (fun (h193 : ¬ (¬ more.toInt = 0)) => ?_)
                  · --
                    refine s_i (pc1 := 189) (ls1 := [some (.ref 65), some (.int bo), some (.int f), some (.int t), some (.int more), some (.int c), some (.int dd), some (.int x9), some (.int x146), some (.int x191)]) (st1 := []) rfl rfl fun x194 e195 => ?_
                    have e195t : x194.toInt = 1 := by rw [e195]; rfl
                    refine aw_step (f1 := (193, [some (.ref 65), some (.int bo), some (.int f), some (.int t), some (.int more), some (.int c), some (.int dd), some (.int x9), some (.int x146), some (.int x191)], [(.int x194)])) (w1 := w171) rfl rfl ?_
                    refine aw_step (f1 := (195, [some (.ref 65), some (.int bo), some (.int f), some (.int t), some (.int x194), some (.int c), some (.int dd), some (.int x9), some (.int x146), some (.int x191)], [])) (w1 := w171) rfl rfl ?_
                    refine aw_step (f1 := (198, [some (.ref 65), some (.int bo), some (.int f), some (.int t), some (.int x194), some (.int c), some (.int (dd + Int32.ofInt 1)), some (.int x9), some (.int x146), some (.int x191)], [])) (w1 := w171) rfl rfl ?_
                    obtain ⟨x196, x196e⟩ : ∃ z, z = (dd + Int32.ofInt 1) := ⟨_, rfl⟩
                    have x196t : x196.toInt = dd.toInt + (1) := by rw [x196e]; exact n_add (y := Int32.ofInt (1)) (by show _ ≤ _ + (1 : Int); omega) (by show _ + (1 : Int) ≤ _; omega)
                    rw [← x196e]
                    refine aw_step (f1 := (48, [some (.ref 65), some (.int bo), some (.int f), some (.int t), some (.int x194), some (.int c), some (.int x196), some (.int x9), some (.int x146), some (.int x191)], [])) (w1 := w171) rfl rfl ?_
                    exact ih w171 x194 x196 _ _ _ (by omega) (by omega) (by omega) J172 (by omega) (by omega)
                  · --
                    refine aw_step (f1 := (180, [some (.ref 65), some (.int bo), some (.int f), some (.int t), some (.int more), some (.int c), some (.int dd), some (.int x9), some (.int x146), some (.int x191)], [(.int x146)])) (w1 := w171) rfl rfl ?_
                    refine s_if 188 183 rfl rfl rfl (fun (h197 : ¬ x146.toInt = 0) => ?_) (fun (h197 : ¬ (¬ x146.toInt = 0)) => ?_)
                    · --
                      refine s_i (pc1 := 189) (ls1 := [some (.ref 65), some (.int bo), some (.int f), some (.int t), some (.int more), some (.int c), some (.int dd), some (.int x9), some (.int x146), some (.int x191)]) (st1 := []) rfl rfl fun x198 e199 => ?_
                      have e199t : x198.toInt = 1 := by rw [e199]; rfl
                      refine aw_step (f1 := (193, [some (.ref 65), some (.int bo), some (.int f), some (.int t), some (.int more), some (.int c), some (.int dd), some (.int x9), some (.int x146), some (.int x191)], [(.int x198)])) (w1 := w171) rfl rfl ?_
                      refine aw_step (f1 := (195, [some (.ref 65), some (.int bo), some (.int f), some (.int t), some (.int x198), some (.int c), some (.int dd), some (.int x9), some (.int x146), some (.int x191)], [])) (w1 := w171) rfl rfl ?_
                      refine aw_step (f1 := (198, [some (.ref 65), some (.int bo), some (.int f), some (.int t), some (.int x198), some (.int c), some (.int (dd + Int32.ofInt 1)), some (.int x9), some (.int x146), some (.int x191)], [])) (w1 := w171) rfl rfl ?_
                      obtain ⟨x200, x200e⟩ : ∃ z, z = (dd + Int32.ofInt 1) := ⟨_, rfl⟩
                      have x200t : x200.toInt = dd.toInt + (1) := by rw [x200e]; exact n_add (y := Int32.ofInt (1)) (by show _ ≤ _ + (1 : Int); omega) (by show _ + (1 : Int) ≤ _; omega)
                      rw [← x200e]
                      refine aw_step (f1 := (48, [some (.ref 65), some (.int bo), some (.int f), some (.int t), some (.int x198), some (.int c), some (.int x200), some (.int x9), some (.int x146), some (.int x191)], [])) (w1 := w171) rfl rfl ?_
                      exact ih w171 x198 x200 _ _ _ (by omega) (by omega) (by omega) J172 (by omega) (by omega)
                    · --
                      refine aw_step (f1 := (185, [some (.ref 65), some (.int bo), some (.int f), some (.int t), some (.int more), some (.int c), some (.int dd), some (.int x9), some (.int x146), some (.int x191)], [(.int x191)])) (w1 := w171) rfl rfl ?_
                      refine s_if 192 188 rfl rfl rfl (fun (h201 : x191.toInt = 0) => ?_) (fun (h201 : ¬ (x191.toInt = 0)) => ?_)
                      · --
                        refine s_i (pc1 := 193) (ls1 := [some (.ref 65), some (.int bo), some (.int f), some (.int t), some (.int more), some (.int c), some (.int dd), some (.int x9), some (.int x146), some (.int x191)]) (st1 := []) rfl rfl fun x202 e203 => ?_
                        have e203t : x202.toInt = 0 := by rw [e203]; rfl
                        refine aw_step (f1 := (195, [some (.ref 65), some (.int bo), some (.int f), some (.int t), some (.int x202), some (.int c), some (.int dd), some (.int x9), some (.int x146), some (.int x191)], [])) (w1 := w171) rfl rfl ?_
                        refine aw_step (f1 := (198, [some (.ref 65), some (.int bo), some (.int f), some (.int t), some (.int x202), some (.int c), some (.int (dd + Int32.ofInt 1)), some (.int x9), some (.int x146), some (.int x191)], [])) (w1 := w171) rfl rfl ?_
                        obtain ⟨x204, x204e⟩ : ∃ z, z = (dd + Int32.ofInt 1) := ⟨_, rfl⟩
                        have x204t : x204.toInt = dd.toInt + (1) := by rw [x204e]; exact n_add (y := Int32.ofInt (1)) (by show _ ≤ _ + (1 : Int); omega) (by show _ + (1 : Int) ≤ _; omega)
                        rw [← x204e]
                        refine aw_step (f1 := (48, [some (.ref 65), some (.int bo), some (.int f), some (.int t), some (.int x202), some (.int c), some (.int x204), some (.int x9), some (.int x146), some (.int x191)], [])) (w1 := w171) rfl rfl ?_
                        exact ih w171 x202 x204 _ _ _ (by omega) (by omega) (by omega) J172 (by omega) (by omega)
                      · --
                        refine s_i (pc1 := 189) (ls1 := [some (.ref 65), some (.int bo), some (.int f), some (.int t), some (.int more), some (.int c), some (.int dd), some (.int x9), some (.int x146), some (.int x191)]) (st1 := []) rfl rfl fun x205 e206 => ?_
                        have e206t : x205.toInt = 1 := by rw [e206]; rfl
                        refine aw_step (f1 := (193, [some (.ref 65), some (.int bo), some (.int f), some (.int t), some (.int more), some (.int c), some (.int dd), some (.int x9), some (.int x146), some (.int x191)], [(.int x205)])) (w1 := w171) rfl rfl ?_
                        refine aw_step (f1 := (195, [some (.ref 65), some (.int bo), some (.int f), some (.int t), some (.int x205), some (.int c), some (.int dd), some (.int x9), some (.int x146), some (.int x191)], [])) (w1 := w171) rfl rfl ?_
                        refine aw_step (f1 := (198, [some (.ref 65), some (.int bo), some (.int f), some (.int t), some (.int x205), some (.int c), some (.int (dd + Int32.ofInt 1)), some (.int x9), some (.int x146), some (.int x191)], [])) (w1 := w171) rfl rfl ?_
                        obtain ⟨x207, x207e⟩ : ∃ z, z = (dd + Int32.ofInt 1) := ⟨_, rfl⟩
                        have x207t : x207.toInt = dd.toInt + (1) := by rw [x207e]; exact n_add (y := Int32.ofInt (1)) (by show _ ≤ _ + (1 : Int); omega) (by show _ + (1 : Int) ≤ _; omega)
                        rw [← x207e]
                        refine aw_step (f1 := (48, [some (.ref 65), some (.int bo), some (.int f), some (.int t), some (.int x205), some (.int c), some (.int x207), some (.int x9), some (.int x146), some (.int x191)], [])) (w1 := w171) rfl rfl ?_
                        exact ih w171 x205 x207 _ _ _ (by omega) (by omega) (by omega) J172 (by omega) (by omega)
        · --
          refine aw_step (f1 := (79, [some (.ref 65), some (.int bo), some (.int f), some (.int t), some (.int more), some (.int c), some (.int dd), o7, o8, o9], [(.ref 65)])) (w1 := w) rfl rfl ?_
          refine aw_step (f1 := (81, [some (.ref 65), some (.int bo), some (.int f), some (.int t), some (.int more), some (.int c), some (.int dd), o7, o8, o9], [(.int c), (.ref 65)])) (w1 := w) rfl rfl ?_
          refine aw_step (f1 := (83, [some (.ref 65), some (.int bo), some (.int f), some (.int t), some (.int more), some (.int c), some (.int dd), o7, o8, o9], [(.int dd), (.int c), (.ref 65)])) (w1 := w) rfl rfl ?_
          refine s_cv (z := 130) (p := 65) (as := [(.int c), (.int dd)]) (st1 := []) J 86 rfl rfl rfl rfl rfl rfl rfl rfl (Nat.le_of_ble_eq_true rfl) (Nat.le_of_ble_eq_true rfl) (q_square c dd ⟨by omega, by omega⟩ ⟨by omega, by omega⟩ J.1) ?_
          rintro _ _ ⟨rfl, x208, rfl, x208t⟩
          refine ⟨rfl, ?_⟩
          show aw none _ 151 _ (86, [some (.ref 65), some (.int bo), some (.int f), some (.int t), some (.int more), some (.int c), some (.int dd), o7, o8, o9], [(.int x208)]) w
          refine s_i (pc1 := 87) (ls1 := [some (.ref 65), some (.int bo), some (.int f), some (.int t), some (.int more), some (.int c), some (.int dd), o7, o8, o9]) (st1 := [(.int x208)]) rfl rfl fun x209 e210 => ?_
          have e210t : x209.toInt = 1 := by rw [e210]; rfl
          refine s_ic 94 90 rfl rfl rfl (fun (h211 : ¬ x208.toInt = x209.toInt) => ?_) (fun (h211 : ¬ (¬ x208.toInt = x209.toInt)) => ?_)
          · --
            refine s_i (pc1 := 95) (ls1 := [some (.ref 65), some (.int bo), some (.int f), some (.int t), some (.int more), some (.int c), some (.int dd), o7, o8, o9]) (st1 := []) rfl rfl fun x212 e213 => ?_
            have e213t : x212.toInt = 0 := by rw [e213]; rfl
            refine aw_step (f1 := (97, [some (.ref 65), some (.int bo), some (.int f), some (.int t), some (.int more), some (.int c), some (.int dd), some (.int x212), o8, o9], [])) (w1 := w) rfl rfl ?_
            refine aw_step (f1 := (98, [some (.ref 65), some (.int bo), some (.int f), some (.int t), some (.int more), some (.int c), some (.int dd), some (.int x212), o8, o9], [(.ref 65)])) (w1 := w) rfl rfl ?_
            refine s_gr 74 J 101 rfl rfl rfl rfl rfl rfl ?_
            refine aw_step (f1 := (103, [some (.ref 65), some (.int bo), some (.int f), some (.int t), some (.int more), some (.int c), some (.int dd), some (.int x212), o8, o9], [(.int c), (.ref 74)])) (w1 := w) rfl rfl ?_
            refine s_la J 104 rfl rfl rfl (by omega) (by omega) fun y214 y214a y214b y214f => ?_
            refine aw_step (f1 := (106, [some (.ref 65), some (.int bo), some (.int f), some (.int t), some (.int more), some (.int c), some (.int dd), some (.int x212), o8, o9], [(.int dd), (.long y214)])) (w1 := w) rfl rfl ?_
            refine s_cs (z := 110) (as := [(.long y214), (.int dd)]) (st1 := []) 109 rfl rfl rfl rfl rfl rfl (Nat.le_of_ble_eq_true rfl) (Nat.le_of_ble_eq_true rfl) (Nat.le_of_ble_eq_true rfl) (q_has y214 dd (by omega) (by omega)) ?_
            rintro _ _ ⟨rfl, x215, rfl, x215t⟩
            refine ⟨rfl, ?_⟩
            show aw none _ 151 _ (109, [some (.ref 65), some (.int bo), some (.int f), some (.int t), some (.int more), some (.int c), some (.int dd), some (.int x212), o8, o9], [(.int x215)]) w
            have x215l := bt_le (n64 y214) dd.toInt.toNat
            refine s_if 137 112 rfl rfl rfl (fun (h216 : x215.toInt = 0) => ?_) (fun (h216 : ¬ (x215.toInt = 0)) => ?_)
            · --
              refine s_i (pc1 := 138) (ls1 := [some (.ref 65), some (.int bo), some (.int f), some (.int t), some (.int more), some (.int c), some (.int dd), some (.int x212), o8, o9]) (st1 := []) rfl rfl fun x217 e218 => ?_
              have e218t : x217.toInt = 0 := by rw [e218]; rfl
              refine aw_step (f1 := (140, [some (.ref 65), some (.int bo), some (.int f), some (.int t), some (.int more), some (.int c), some (.int dd), some (.int x212), some (.int x217), o9], [])) (w1 := w) rfl rfl ?_
              refine aw_step (f1 := (142, [some (.ref 65), some (.int bo), some (.int f), some (.int t), some (.int more), some (.int c), some (.int dd), some (.int x212), some (.int x217), o9], [(.int x212)])) (w1 := w) rfl rfl ?_
              refine s_if 170 145 rfl rfl rfl (fun (h219 : x212.toInt = 0) => ?_) (fun (h219 : ¬ (x212.toInt = 0)) => ?_)
              · --
                refine s_i (pc1 := 171) (ls1 := [some (.ref 65), some (.int bo), some (.int f), some (.int t), some (.int more), some (.int c), some (.int dd), some (.int x212), some (.int x217), o9]) (st1 := []) rfl rfl fun x220 e221 => ?_
                have e221t : x220.toInt = 0 := by rw [e221]; rfl
                refine aw_step (f1 := (173, [some (.ref 65), some (.int bo), some (.int f), some (.int t), some (.int more), some (.int c), some (.int dd), some (.int x212), some (.int x217), some (.int x220)], [])) (w1 := w) rfl rfl ?_
                refine aw_step (f1 := (175, [some (.ref 65), some (.int bo), some (.int f), some (.int t), some (.int more), some (.int c), some (.int dd), some (.int x212), some (.int x217), some (.int x220)], [(.int more)])) (w1 := w) rfl rfl ?_
                refine s_if 188 178 rfl rfl rfl (fun (h222 : ¬ more.toInt = 0) => ?_) (fun (h222 : ¬ (¬ more.toInt = 0)) => ?_)
                · --
                  refine s_i (pc1 := 189) (ls1 := [some (.ref 65), some (.int bo), some (.int f), some (.int t), some (.int more), some (.int c), some (.int dd), some (.int x212), some (.int x217), some (.int x220)]) (st1 := []) rfl rfl fun x223 e224 => ?_
                  have e224t : x223.toInt = 1 := by rw [e224]; rfl
                  refine aw_step (f1 := (193, [some (.ref 65), some (.int bo), some (.int f), some (.int t), some (.int more), some (.int c), some (.int dd), some (.int x212), some (.int x217), some (.int x220)], [(.int x223)])) (w1 := w) rfl rfl ?_
                  refine aw_step (f1 := (195, [some (.ref 65), some (.int bo), some (.int f), some (.int t), some (.int x223), some (.int c), some (.int dd), some (.int x212), some (.int x217), some (.int x220)], [])) (w1 := w) rfl rfl ?_
                  refine aw_step (f1 := (198, [some (.ref 65), some (.int bo), some (.int f), some (.int t), some (.int x223), some (.int c), some (.int (dd + Int32.ofInt 1)), some (.int x212), some (.int x217), some (.int x220)], [])) (w1 := w) rfl rfl ?_
                  obtain ⟨x225, x225e⟩ : ∃ z, z = (dd + Int32.ofInt 1) := ⟨_, rfl⟩
                  have x225t : x225.toInt = dd.toInt + (1) := by rw [x225e]; exact n_add (y := Int32.ofInt (1)) (by show _ ≤ _ + (1 : Int); omega) (by show _ + (1 : Int) ≤ _; omega)
                  rw [← x225e]
                  refine aw_step (f1 := (48, [some (.ref 65), some (.int bo), some (.int f), some (.int t), some (.int x223), some (.int c), some (.int x225), some (.int x212), some (.int x217), some (.int x220)], [])) (w1 := w) rfl rfl ?_
                  exact ih w x223 x225 _ _ _ (by omega) (by omega) (by omega) J (by omega) (by omega)
                · --
                  refine aw_step (f1 := (180, [some (.ref 65), some (.int bo), some (.int f), some (.int t), some (.int more), some (.int c), some (.int dd), some (.int x212), some (.int x217), some (.int x220)], [(.int x217)])) (w1 := w) rfl rfl ?_
                  refine s_if 188 183 rfl rfl rfl (fun (h226 : ¬ x217.toInt = 0) => ?_) (fun (h226 : ¬ (¬ x217.toInt = 0)) => ?_)
                  · --
                    refine s_i (pc1 := 189) (ls1 := [some (.ref 65), some (.int bo), some (.int f), some (.int t), some (.int more), some (.int c), some (.int dd), some (.int x212), some (.int x217), some (.int x220)]) (st1 := []) rfl rfl fun x227 e228 => ?_
                    have e228t : x227.toInt = 1 := by rw [e228]; rfl
                    refine aw_step (f1 := (193, [some (.ref 65), some (.int bo), some (.int f), some (.int t), some (.int more), some (.int c), some (.int dd), some (.int x212), some (.int x217), some (.int x220)], [(.int x227)])) (w1 := w) rfl rfl ?_
                    refine aw_step (f1 := (195, [some (.ref 65), some (.int bo), some (.int f), some (.int t), some (.int x227), some (.int c), some (.int dd), some (.int x212), some (.int x217), some (.int x220)], [])) (w1 := w) rfl rfl ?_
                    refine aw_step (f1 := (198, [some (.ref 65), some (.int bo), some (.int f), some (.int t), some (.int x227), some (.int c), some (.int (dd + Int32.ofInt 1)), some (.int x212), some (.int x217), some (.int x220)], [])) (w1 := w) rfl rfl ?_
                    obtain ⟨x229, x229e⟩ : ∃ z, z = (dd + Int32.ofInt 1) := ⟨_, rfl⟩
                    have x229t : x229.toInt = dd.toInt + (1) := by rw [x229e]; exact n_add (y := Int32.ofInt (1)) (by show _ ≤ _ + (1 : Int); omega) (by show _ + (1 : Int) ≤ _; omega)
                    rw [← x229e]
                    refine aw_step (f1 := (48, [some (.ref 65), some (.int bo), some (.int f), some (.int t), some (.int x227), some (.int c), some (.int x229), some (.int x212), some (.int x217), some (.int x220)], [])) (w1 := w) rfl rfl ?_
                    exact ih w x227 x229 _ _ _ (by omega) (by omega) (by omega) J (by omega) (by omega)
                  · --
                    refine aw_step (f1 := (185, [some (.ref 65), some (.int bo), some (.int f), some (.int t), some (.int more), some (.int c), some (.int dd), some (.int x212), some (.int x217), some (.int x220)], [(.int x220)])) (w1 := w) rfl rfl ?_
                    refine s_if 192 188 rfl rfl rfl (fun (h230 : x220.toInt = 0) => ?_) (fun (h230 : ¬ (x220.toInt = 0)) => ?_)
                    · --
                      refine s_i (pc1 := 193) (ls1 := [some (.ref 65), some (.int bo), some (.int f), some (.int t), some (.int more), some (.int c), some (.int dd), some (.int x212), some (.int x217), some (.int x220)]) (st1 := []) rfl rfl fun x231 e232 => ?_
                      have e232t : x231.toInt = 0 := by rw [e232]; rfl
                      refine aw_step (f1 := (195, [some (.ref 65), some (.int bo), some (.int f), some (.int t), some (.int x231), some (.int c), some (.int dd), some (.int x212), some (.int x217), some (.int x220)], [])) (w1 := w) rfl rfl ?_
                      refine aw_step (f1 := (198, [some (.ref 65), some (.int bo), some (.int f), some (.int t), some (.int x231), some (.int c), some (.int (dd + Int32.ofInt 1)), some (.int x212), some (.int x217), some (.int x220)], [])) (w1 := w) rfl rfl ?_
                      obtain ⟨x233, x233e⟩ : ∃ z, z = (dd + Int32.ofInt 1) := ⟨_, rfl⟩
                      have x233t : x233.toInt = dd.toInt + (1) := by rw [x233e]; exact n_add (y := Int32.ofInt (1)) (by show _ ≤ _ + (1 : Int); omega) (by show _ + (1 : Int) ≤ _; omega)
                      rw [← x233e]
                      refine aw_step (f1 := (48, [some (.ref 65), some (.int bo), some (.int f), some (.int t), some (.int x231), some (.int c), some (.int x233), some (.int x212), some (.int x217), some (.int x220)], [])) (w1 := w) rfl rfl ?_
                      exact ih w x231 x233 _ _ _ (by omega) (by omega) (by omega) J (by omega) (by omega)
                    · --
                      refine s_i (pc1 := 189) (ls1 := [some (.ref 65), some (.int bo), some (.int f), some (.int t), some (.int more), some (.int c), some (.int dd), some (.int x212), some (.int x217), some (.int x220)]) (st1 := []) rfl rfl fun x234 e235 => ?_
                      have e235t : x234.toInt = 1 := by rw [e235]; rfl
                      refine aw_step (f1 := (193, [some (.ref 65), some (.int bo), some (.int f), some (.int t), some (.int more), some (.int c), some (.int dd), some (.int x212), some (.int x217), some (.int x220)], [(.int x234)])) (w1 := w) rfl rfl ?_
                      refine aw_step (f1 := (195, [some (.ref 65), some (.int bo), some (.int f), some (.int t), some (.int x234), some (.int c), some (.int dd), some (.int x212), some (.int x217), some (.int x220)], [])) (w1 := w) rfl rfl ?_
                      refine aw_step (f1 := (198, [some (.ref 65), some (.int bo), some (.int f), some (.int t), some (.int x234), some (.int c), some (.int (dd + Int32.ofInt 1)), some (.int x212), some (.int x217), some (.int x220)], [])) (w1 := w) rfl rfl ?_
                      obtain ⟨x236, x236e⟩ : ∃ z, z = (dd + Int32.ofInt 1) := ⟨_, rfl⟩
                      have x236t : x236.toInt = dd.toInt + (1) := by rw [x236e]; exact n_add (y := Int32.ofInt (1)) (by show _ ≤ _ + (1 : Int); omega) (by show _ + (1 : Int) ≤ _; omega)
                      rw [← x236e]
                      refine aw_step (f1 := (48, [some (.ref 65), some (.int bo), some (.int f), some (.int t), some (.int x234), some (.int c), some (.int x236), some (.int x212), some (.int x217), some (.int x220)], [])) (w1 := w) rfl rfl ?_
                      exact ih w x234 x236 _ _ _ (by omega) (by omega) (by omega) J (by omega) (by omega)
              · --
                refine aw_step (f1 := (146, [some (.ref 65), some (.int bo), some (.int f), some (.int t), some (.int more), some (.int c), some (.int dd), some (.int x212), some (.int x217), o9], [(.ref 65)])) (w1 := w) rfl rfl ?_
                refine aw_step (f1 := (148, [some (.ref 65), some (.int bo), some (.int f), some (.int t), some (.int more), some (.int c), some (.int dd), some (.int x212), some (.int x217), o9], [(.int dd), (.ref 65)])) (w1 := w) rfl rfl ?_
                refine aw_step (f1 := (149, [some (.ref 65), some (.int bo), some (.int f), some (.int t), some (.int more), some (.int c), some (.int dd), some (.int x212), some (.int x217), o9], [(.ref 65), (.int dd), (.ref 65)])) (w1 := w) rfl rfl ?_
                refine s_gr 78 J 152 rfl rfl rfl rfl rfl rfl ?_
                refine aw_step (f1 := (154, [some (.ref 65), some (.int bo), some (.int f), some (.int t), some (.int more), some (.int c), some (.int dd), some (.int x212), some (.int x217), o9], [(.int c), (.ref 78), (.int dd), (.ref 65)])) (w1 := w) rfl rfl ?_
                refine s_ia J 155 rfl rfl rfl rfl (by omega) (by omega) fun x237 x237a x237b x237f => ?_
                refine aw_step (f1 := (156, [some (.ref 65), some (.int bo), some (.int f), some (.int t), some (.int more), some (.int c), some (.int dd), some (.int x212), some (.int x217), o9], [(.ref 65), (.int x237), (.int dd), (.ref 65)])) (w1 := w) rfl rfl ?_
                refine s_gi J 159 rfl rfl rfl rfl rfl rfl fun x238 x238a x238b x238f => ?_
                refine s_i (pc1 := 160) (ls1 := [some (.ref 65), some (.int bo), some (.int f), some (.int t), some (.int more), some (.int c), some (.int dd), some (.int x212), some (.int x217), o9]) (st1 := [(.int dd), (.ref 65)]) rfl rfl fun x239 e240 => ?_
                have e240 : x239 = x237 + x238 := e240
                have e240t : x239.toInt = x237.toInt + x238.toInt := by rw [e240]; exact n_add (by omega) (by omega)
                refine s_cv (z := 147) (p := 65) (as := [(.int dd), (.int x239)]) (st1 := []) J 163 rfl rfl rfl rfl rfl rfl rfl rfl (Nat.le_of_ble_eq_true rfl) (Nat.le_of_ble_eq_true rfl) (q_cheapen dd x239 ⟨by omega, by omega⟩ (by omega) J.1) ?_
                rintro _ w242 ⟨x241, rfl, J243c, w242o, w242p⟩
                have J243 := J.trans J243c
                refine ⟨am_len2 J J243c, ?_⟩
                show aw none _ 151 _ (163, [some (.ref 65), some (.int bo), some (.int f), some (.int t), some (.int more), some (.int c), some (.int dd), some (.int x212), some (.int x217), o9], [(.int x241)]) w242
                have w242s := w242p.s (by omega)
                have w242z := w242o.sz (by decide)
                refine s_if 170 166 rfl rfl rfl (fun (h244 : x241.toInt = 0) => ?_) (fun (h244 : ¬ (x241.toInt = 0)) => ?_)
                · --
                  refine s_i (pc1 := 171) (ls1 := [some (.ref 65), some (.int bo), some (.int f), some (.int t), some (.int more), some (.int c), some (.int dd), some (.int x212), some (.int x217), o9]) (st1 := []) rfl rfl fun x245 e246 => ?_
                  have e246t : x245.toInt = 0 := by rw [e246]; rfl
                  refine aw_step (f1 := (173, [some (.ref 65), some (.int bo), some (.int f), some (.int t), some (.int more), some (.int c), some (.int dd), some (.int x212), some (.int x217), some (.int x245)], [])) (w1 := w242) rfl rfl ?_
                  refine aw_step (f1 := (175, [some (.ref 65), some (.int bo), some (.int f), some (.int t), some (.int more), some (.int c), some (.int dd), some (.int x212), some (.int x217), some (.int x245)], [(.int more)])) (w1 := w242) rfl rfl ?_
                  refine s_if 188 178 rfl rfl rfl (fun (h247 : ¬ more.toInt = 0) => ?_) (fun (h247 : ¬ (¬ more.toInt = 0)) => ?_)
                  · --
                    refine s_i (pc1 := 189) (ls1 := [some (.ref 65), some (.int bo), some (.int f), some (.int t), some (.int more), some (.int c), some (.int dd), some (.int x212), some (.int x217), some (.int x245)]) (st1 := []) rfl rfl fun x248 e249 => ?_
                    have e249t : x248.toInt = 1 := by rw [e249]; rfl
                    refine aw_step (f1 := (193, [some (.ref 65), some (.int bo), some (.int f), some (.int t), some (.int more), some (.int c), some (.int dd), some (.int x212), some (.int x217), some (.int x245)], [(.int x248)])) (w1 := w242) rfl rfl ?_
                    refine aw_step (f1 := (195, [some (.ref 65), some (.int bo), some (.int f), some (.int t), some (.int x248), some (.int c), some (.int dd), some (.int x212), some (.int x217), some (.int x245)], [])) (w1 := w242) rfl rfl ?_
                    refine aw_step (f1 := (198, [some (.ref 65), some (.int bo), some (.int f), some (.int t), some (.int x248), some (.int c), some (.int (dd + Int32.ofInt 1)), some (.int x212), some (.int x217), some (.int x245)], [])) (w1 := w242) rfl rfl ?_
                    obtain ⟨x250, x250e⟩ : ∃ z, z = (dd + Int32.ofInt 1) := ⟨_, rfl⟩
                    have x250t : x250.toInt = dd.toInt + (1) := by rw [x250e]; exact n_add (y := Int32.ofInt (1)) (by show _ ≤ _ + (1 : Int); omega) (by show _ + (1 : Int) ≤ _; omega)
                    rw [← x250e]
                    refine aw_step (f1 := (48, [some (.ref 65), some (.int bo), some (.int f), some (.int t), some (.int x248), some (.int c), some (.int x250), some (.int x212), some (.int x217), some (.int x245)], [])) (w1 := w242) rfl rfl ?_
                    exact ih w242 x248 x250 _ _ _ (by omega) (by omega) (by omega) J243 (by omega) (by omega)
                  · --
                    refine aw_step (f1 := (180, [some (.ref 65), some (.int bo), some (.int f), some (.int t), some (.int more), some (.int c), some (.int dd), some (.int x212), some (.int x217), some (.int x245)], [(.int x217)])) (w1 := w242) rfl rfl ?_
                    refine s_if 188 183 rfl rfl rfl (fun (h251 : ¬ x217.toInt = 0) => ?_) (fun (h251 : ¬ (¬ x217.toInt = 0)) => ?_)
                    · --
                      refine s_i (pc1 := 189) (ls1 := [some (.ref 65), some (.int bo), some (.int f), some (.int t), some (.int more), some (.int c), some (.int dd), some (.int x212), some (.int x217), some (.int x245)]) (st1 := []) rfl rfl fun x252 e253 => ?_
                      have e253t : x252.toInt = 1 := by rw [e253]; rfl
                      refine aw_step (f1 := (193, [some (.ref 65), some (.int bo), some (.int f), some (.int t), some (.int more), some (.int c), some (.int dd), some (.int x212), some (.int x217), some (.int x245)], [(.int x252)])) (w1 := w242) rfl rfl ?_
                      refine aw_step (f1 := (195, [some (.ref 65), some (.int bo), some (.int f), some (.int t), some (.int x252), some (.int c), some (.int dd), some (.int x212), some (.int x217), some (.int x245)], [])) (w1 := w242) rfl rfl ?_
                      refine aw_step (f1 := (198, [some (.ref 65), some (.int bo), some (.int f), some (.int t), some (.int x252), some (.int c), some (.int (dd + Int32.ofInt 1)), some (.int x212), some (.int x217), some (.int x245)], [])) (w1 := w242) rfl rfl ?_
                      obtain ⟨x254, x254e⟩ : ∃ z, z = (dd + Int32.ofInt 1) := ⟨_, rfl⟩
                      have x254t : x254.toInt = dd.toInt + (1) := by rw [x254e]; exact n_add (y := Int32.ofInt (1)) (by show _ ≤ _ + (1 : Int); omega) (by show _ + (1 : Int) ≤ _; omega)
                      rw [← x254e]
                      refine aw_step (f1 := (48, [some (.ref 65), some (.int bo), some (.int f), some (.int t), some (.int x252), some (.int c), some (.int x254), some (.int x212), some (.int x217), some (.int x245)], [])) (w1 := w242) rfl rfl ?_
                      exact ih w242 x252 x254 _ _ _ (by omega) (by omega) (by omega) J243 (by omega) (by omega)
                    · --
                      refine aw_step (f1 := (185, [some (.ref 65), some (.int bo), some (.int f), some (.int t), some (.int more), some (.int c), some (.int dd), some (.int x212), some (.int x217), some (.int x245)], [(.int x245)])) (w1 := w242) rfl rfl ?_
                      refine s_if 192 188 rfl rfl rfl (fun (h255 : x245.toInt = 0) => ?_) (fun (h255 : ¬ (x245.toInt = 0)) => ?_)
                      · --
                        refine s_i (pc1 := 193) (ls1 := [some (.ref 65), some (.int bo), some (.int f), some (.int t), some (.int more), some (.int c), some (.int dd), some (.int x212), some (.int x217), some (.int x245)]) (st1 := []) rfl rfl fun x256 e257 => ?_
                        have e257t : x256.toInt = 0 := by rw [e257]; rfl
                        refine aw_step (f1 := (195, [some (.ref 65), some (.int bo), some (.int f), some (.int t), some (.int x256), some (.int c), some (.int dd), some (.int x212), some (.int x217), some (.int x245)], [])) (w1 := w242) rfl rfl ?_
                        refine aw_step (f1 := (198, [some (.ref 65), some (.int bo), some (.int f), some (.int t), some (.int x256), some (.int c), some (.int (dd + Int32.ofInt 1)), some (.int x212), some (.int x217), some (.int x245)], [])) (w1 := w242) rfl rfl ?_
                        obtain ⟨x258, x258e⟩ : ∃ z, z = (dd + Int32.ofInt 1) := ⟨_, rfl⟩
                        have x258t : x258.toInt = dd.toInt + (1) := by rw [x258e]; exact n_add (y := Int32.ofInt (1)) (by show _ ≤ _ + (1 : Int); omega) (by show _ + (1 : Int) ≤ _; omega)
                        rw [← x258e]
                        refine aw_step (f1 := (48, [some (.ref 65), some (.int bo), some (.int f), some (.int t), some (.int x256), some (.int c), some (.int x258), some (.int x212), some (.int x217), some (.int x245)], [])) (w1 := w242) rfl rfl ?_
                        exact ih w242 x256 x258 _ _ _ (by omega) (by omega) (by omega) J243 (by omega) (by omega)
                      · --
                        refine s_i (pc1 := 189) (ls1 := [some (.ref 65), some (.int bo), some (.int f), some (.int t), some (.int more), some (.int c), some (.int dd), some (.int x212), some (.int x217), some (.int x245)]) (st1 := []) rfl rfl fun x259 e260 => ?_
                        have e260t : x259.toInt = 1 := by rw [e260]; rfl
                        refine aw_step (f1 := (193, [some (.ref 65), some (.int bo), some (.int f), some (.int t), some (.int more), some (.int c), some (.int dd), some (.int x212), some (.int x217), some (.int x245)], [(.int x259)])) (w1 := w242) rfl rfl ?_
                        refine aw_step (f1 := (195, [some (.ref 65), some (.int bo), some (.int f), some (.int t), some (.int x259), some (.int c), some (.int dd), some (.int x212), some (.int x217), some (.int x245)], [])) (w1 := w242) rfl rfl ?_
                        refine aw_step (f1 := (198, [some (.ref 65), some (.int bo), some (.int f), some (.int t), some (.int x259), some (.int c), some (.int (dd + Int32.ofInt 1)), some (.int x212), some (.int x217), some (.int x245)], [])) (w1 := w242) rfl rfl ?_
                        obtain ⟨x261, x261e⟩ : ∃ z, z = (dd + Int32.ofInt 1) := ⟨_, rfl⟩
                        have x261t : x261.toInt = dd.toInt + (1) := by rw [x261e]; exact n_add (y := Int32.ofInt (1)) (by show _ ≤ _ + (1 : Int); omega) (by show _ + (1 : Int) ≤ _; omega)
                        rw [← x261e]
                        refine aw_step (f1 := (48, [some (.ref 65), some (.int bo), some (.int f), some (.int t), some (.int x259), some (.int c), some (.int x261), some (.int x212), some (.int x217), some (.int x245)], [])) (w1 := w242) rfl rfl ?_
                        exact ih w242 x259 x261 _ _ _ (by omega) (by omega) (by omega) J243 (by omega) (by omega)
                · --
                  refine s_i (pc1 := 167) (ls1 := [some (.ref 65), some (.int bo), some (.int f), some (.int t), some (.int more), some (.int c), some (.int dd), some (.int x212), some (.int x217), o9]) (st1 := []) rfl rfl fun x262 e263 => ?_
                  have e263t : x262.toInt = 1 := by rw [e263]; rfl
                  refine aw_step (f1 := (171, [some (.ref 65), some (.int bo), some (.int f), some (.int t), some (.int more), some (.int c), some (.int dd), some (.int x212), some (.int x217), o9], [(.int x262)])) (w1 := w242) rfl rfl ?_
                  refine aw_step (f1 := (173, [some (.ref 65), some (.int bo), some (.int f), some (.int t), some (.int more), some (.int c), some (.int dd), some (.int x212), some (.int x217), some (.int x262)], [])) (w1 := w242) rfl rfl ?_
                  refine aw_step (f1 := (175, [some (.ref 65), some (.int bo), some (.int f), some (.int t), some (.int more), some (.int c), some (.int dd), some (.int x212), some (.int x217), some (.int x262)], [(.int more)])) (w1 := w242) rfl rfl ?_
                  refine s_if 188 178 rfl rfl rfl (fun (h264 : ¬ more.toInt = 0) => ?_) (fun (h264 : ¬ (¬ more.toInt = 0)) => ?_)
                  · --
                    refine s_i (pc1 := 189) (ls1 := [some (.ref 65), some (.int bo), some (.int f), some (.int t), some (.int more), some (.int c), some (.int dd), some (.int x212), some (.int x217), some (.int x262)]) (st1 := []) rfl rfl fun x265 e266 => ?_
                    have e266t : x265.toInt = 1 := by rw [e266]; rfl
                    refine aw_step (f1 := (193, [some (.ref 65), some (.int bo), some (.int f), some (.int t), some (.int more), some (.int c), some (.int dd), some (.int x212), some (.int x217), some (.int x262)], [(.int x265)])) (w1 := w242) rfl rfl ?_
                    refine aw_step (f1 := (195, [some (.ref 65), some (.int bo), some (.int f), some (.int t), some (.int x265), some (.int c), some (.int dd), some (.int x212), some (.int x217), some (.int x262)], [])) (w1 := w242) rfl rfl ?_
                    refine aw_step (f1 := (198, [some (.ref 65), some (.int bo), some (.int f), some (.int t), some (.int x265), some (.int c), some (.int (dd + Int32.ofInt 1)), some (.int x212), some (.int x217), some (.int x262)], [])) (w1 := w242) rfl rfl ?_
                    obtain ⟨x267, x267e⟩ : ∃ z, z = (dd + Int32.ofInt 1) := ⟨_, rfl⟩
                    have x267t : x267.toInt = dd.toInt + (1) := by rw [x267e]; exact n_add (y := Int32.ofInt (1)) (by show _ ≤ _ + (1 : Int); omega) (by show _ + (1 : Int) ≤ _; omega)
                    rw [← x267e]
                    refine aw_step (f1 := (48, [some (.ref 65), some (.int bo), some (.int f), some (.int t), some (.int x265), some (.int c), some (.int x267), some (.int x212), some (.int x217), some (.int x262)], [])) (w1 := w242) rfl rfl ?_
                    exact ih w242 x265 x267 _ _ _ (by omega) (by omega) (by omega) J243 (by omega) (by omega)
                  · --
                    refine aw_step (f1 := (180, [some (.ref 65), some (.int bo), some (.int f), some (.int t), some (.int more), some (.int c), some (.int dd), some (.int x212), some (.int x217), some (.int x262)], [(.int x217)])) (w1 := w242) rfl rfl ?_
                    refine s_if 188 183 rfl rfl rfl (fun (h268 : ¬ x217.toInt = 0) => ?_) (fun (h268 : ¬ (¬ x217.toInt = 0)) => ?_)
                    · --
                      refine s_i (pc1 := 189) (ls1 := [some (.ref 65), some (.int bo), some (.int f), some (.int t), some (.int more), some (.int c), some (.int dd), some (.int x212), some (.int x217), some (.int x262)]) (st1 := []) rfl rfl fun x269 e270 => ?_
                      have e270t : x269.toInt = 1 := by rw [e270]; rfl
                      refine aw_step (f1 := (193, [some (.ref 65), some (.int bo), some (.int f), some (.int t), some (.int more), some (.int c), some (.int dd), some (.int x212), some (.int x217), some (.int x262)], [(.int x269)])) (w1 := w242) rfl rfl ?_
                      refine aw_step (f1 := (195, [some (.ref 65), some (.int bo), some (.int f), some (.int t), some (.int x269), some (.int c), some (.int dd), some (.int x212), some (.int x217), some (.int x262)], [])) (w1 := w242) rfl rfl ?_
                      refine aw_step (f1 := (198, [some (.ref 65), some (.int bo), some (.int f), some (.int t), some (.int x269), some (.int c), some (.int (dd + Int32.ofInt 1)), some (.int x212), some (.int x217), some (.int x262)], [])) (w1 := w242) rfl rfl ?_
                      obtain ⟨x271, x271e⟩ : ∃ z, z = (dd + Int32.ofInt 1) := ⟨_, rfl⟩
                      have x271t : x271.toInt = dd.toInt + (1) := by rw [x271e]; exact n_add (y := Int32.ofInt (1)) (by show _ ≤ _ + (1 : Int); omega) (by show _ + (1 : Int) ≤ _; omega)
                      rw [← x271e]
                      refine aw_step (f1 := (48, [some (.ref 65), some (.int bo), some (.int f), some (.int t), some (.int x269), some (.int c), some (.int x271), some (.int x212), some (.int x217), some (.int x262)], [])) (w1 := w242) rfl rfl ?_
                      exact ih w242 x269 x271 _ _ _ (by omega) (by omega) (by omega) J243 (by omega) (by omega)
                    · --
                      refine aw_step (f1 := (185, [some (.ref 65), some (.int bo), some (.int f), some (.int t), some (.int more), some (.int c), some (.int dd), some (.int x212), some (.int x217), some (.int x262)], [(.int x262)])) (w1 := w242) rfl rfl ?_
                      refine s_if 192 188 rfl rfl rfl (fun (h272 : x262.toInt = 0) => ?_) (fun (h272 : ¬ (x262.toInt = 0)) => ?_)
                      · --
                        refine s_i (pc1 := 193) (ls1 := [some (.ref 65), some (.int bo), some (.int f), some (.int t), some (.int more), some (.int c), some (.int dd), some (.int x212), some (.int x217), some (.int x262)]) (st1 := []) rfl rfl fun x273 e274 => ?_
                        have e274t : x273.toInt = 0 := by rw [e274]; rfl
                        refine aw_step (f1 := (195, [some (.ref 65), some (.int bo), some (.int f), some (.int t), some (.int x273), some (.int c), some (.int dd), some (.int x212), some (.int x217), some (.int x262)], [])) (w1 := w242) rfl rfl ?_
                        refine aw_step (f1 := (198, [some (.ref 65), some (.int bo), some (.int f), some (.int t), some (.int x273), some (.int c), some (.int (dd + Int32.ofInt 1)), some (.int x212), some (.int x217), some (.int x262)], [])) (w1 := w242) rfl rfl ?_
                        obtain ⟨x275, x275e⟩ : ∃ z, z = (dd + Int32.ofInt 1) := ⟨_, rfl⟩
                        have x275t : x275.toInt = dd.toInt + (1) := by rw [x275e]; exact n_add (y := Int32.ofInt (1)) (by show _ ≤ _ + (1 : Int); omega) (by show _ + (1 : Int) ≤ _; omega)
                        rw [← x275e]
                        refine aw_step (f1 := (48, [some (.ref 65), some (.int bo), some (.int f), some (.int t), some (.int x273), some (.int c), some (.int x275), some (.int x212), some (.int x217), some (.int x262)], [])) (w1 := w242) rfl rfl ?_
                        exact ih w242 x273 x275 _ _ _ (by omega) (by omega) (by omega) J243 (by omega) (by omega)
                      · --
                        refine s_i (pc1 := 189) (ls1 := [some (.ref 65), some (.int bo), some (.int f), some (.int t), some (.int more), some (.int c), some (.int dd), some (.int x212), some (.int x217), some (.int x262)]) (st1 := []) rfl rfl fun x276 e277 => ?_
                        have e277t : x276.toInt = 1 := by rw [e277]; rfl
                        refine aw_step (f1 := (193, [some (.ref 65), some (.int bo), some (.int f), some (.int t), some (.int more), some (.int c), some (.int dd), some (.int x212), some (.int x217), some (.int x262)], [(.int x276)])) (w1 := w242) rfl rfl ?_
                        refine aw_step (f1 := (195, [some (.ref 65), some (.int bo), some (.int f), some (.int t), some (.int x276), some (.int c), some (.int dd), some (.int x212), some (.int x217), some (.int x262)], [])) (w1 := w242) rfl rfl ?_
                        refine aw_step (f1 := (198, [some (.ref 65), some (.int bo), some (.int f), some (.int t), some (.int x276), some (.int c), some (.int (dd + Int32.ofInt 1)), some (.int x212), some (.int x217), some (.int x262)], [])) (w1 := w242) rfl rfl ?_
                        obtain ⟨x278, x278e⟩ : ∃ z, z = (dd + Int32.ofInt 1) := ⟨_, rfl⟩
                        have x278t : x278.toInt = dd.toInt + (1) := by rw [x278e]; exact n_add (y := Int32.ofInt (1)) (by show _ ≤ _ + (1 : Int); omega) (by show _ + (1 : Int) ≤ _; omega)
                        rw [← x278e]
                        refine aw_step (f1 := (48, [some (.ref 65), some (.int bo), some (.int f), some (.int t), some (.int x276), some (.int c), some (.int x278), some (.int x212), some (.int x217), some (.int x262)], [])) (w1 := w242) rfl rfl ?_
                        exact ih w242 x276 x278 _ _ _ (by omega) (by omega) (by omega) J243 (by omega) (by omega)
            · --
              refine aw_step (f1 := (113, [some (.ref 65), some (.int bo), some (.int f), some (.int t), some (.int more), some (.int c), some (.int dd), some (.int x212), o8, o9], [(.ref 65)])) (w1 := w) rfl rfl ?_
              refine aw_step (f1 := (115, [some (.ref 65), some (.int bo), some (.int f), some (.int t), some (.int more), some (.int c), some (.int dd), some (.int x212), o8, o9], [(.int dd), (.ref 65)])) (w1 := w) rfl rfl ?_
              refine aw_step (f1 := (116, [some (.ref 65), some (.int bo), some (.int f), some (.int t), some (.int more), some (.int c), some (.int dd), some (.int x212), o8, o9], [(.ref 65), (.int dd), (.ref 65)])) (w1 := w) rfl rfl ?_
              refine s_gr 78 J 119 rfl rfl rfl rfl rfl rfl ?_
              refine aw_step (f1 := (121, [some (.ref 65), some (.int bo), some (.int f), some (.int t), some (.int more), some (.int c), some (.int dd), some (.int x212), o8, o9], [(.int c), (.ref 78), (.int dd), (.ref 65)])) (w1 := w) rfl rfl ?_
              refine s_ia J 122 rfl rfl rfl rfl (by omega) (by omega) fun x279 x279a x279b x279f => ?_
              refine aw_step (f1 := (123, [some (.ref 65), some (.int bo), some (.int f), some (.int t), some (.int more), some (.int c), some (.int dd), some (.int x212), o8, o9], [(.ref 65), (.int x279), (.int dd), (.ref 65)])) (w1 := w) rfl rfl ?_
              refine s_gi J 126 rfl rfl rfl rfl rfl rfl fun x280 x280a x280b x280f => ?_
              refine s_i (pc1 := 127) (ls1 := [some (.ref 65), some (.int bo), some (.int f), some (.int t), some (.int more), some (.int c), some (.int dd), some (.int x212), o8, o9]) (st1 := [(.int dd), (.ref 65)]) rfl rfl fun x281 e282 => ?_
              have e282 : x281 = x279 + x280 := e282
              have e282t : x281.toInt = x279.toInt + x280.toInt := by rw [e282]; exact n_add (by omega) (by omega)
              refine s_cv (z := 147) (p := 65) (as := [(.int dd), (.int x281)]) (st1 := []) J 130 rfl rfl rfl rfl rfl rfl rfl rfl (Nat.le_of_ble_eq_true rfl) (Nat.le_of_ble_eq_true rfl) (q_cheapen dd x281 ⟨by omega, by omega⟩ (by omega) J.1) ?_
              rintro _ w284 ⟨x283, rfl, J285c, w284o, w284p⟩
              have J285 := J.trans J285c
              refine ⟨am_len2 J J285c, ?_⟩
              show aw none _ 151 _ (130, [some (.ref 65), some (.int bo), some (.int f), some (.int t), some (.int more), some (.int c), some (.int dd), some (.int x212), o8, o9], [(.int x283)]) w284
              have w284s := w284p.s (by omega)
              have w284z := w284o.sz (by decide)
              refine s_if 137 133 rfl rfl rfl (fun (h286 : x283.toInt = 0) => ?_) (fun (h286 : ¬ (x283.toInt = 0)) => ?_)
              · --
                refine s_i (pc1 := 138) (ls1 := [some (.ref 65), some (.int bo), some (.int f), some (.int t), some (.int more), some (.int c), some (.int dd), some (.int x212), o8, o9]) (st1 := []) rfl rfl fun x287 e288 => ?_
                have e288t : x287.toInt = 0 := by rw [e288]; rfl
                refine aw_step (f1 := (140, [some (.ref 65), some (.int bo), some (.int f), some (.int t), some (.int more), some (.int c), some (.int dd), some (.int x212), some (.int x287), o9], [])) (w1 := w284) rfl rfl ?_
                refine aw_step (f1 := (142, [some (.ref 65), some (.int bo), some (.int f), some (.int t), some (.int more), some (.int c), some (.int dd), some (.int x212), some (.int x287), o9], [(.int x212)])) (w1 := w284) rfl rfl ?_
                refine s_if 170 145 rfl rfl rfl (fun (h289 : x212.toInt = 0) => ?_) (fun (h289 : ¬ (x212.toInt = 0)) => ?_)
                · --
                  refine s_i (pc1 := 171) (ls1 := [some (.ref 65), some (.int bo), some (.int f), some (.int t), some (.int more), some (.int c), some (.int dd), some (.int x212), some (.int x287), o9]) (st1 := []) rfl rfl fun x290 e291 => ?_
                  have e291t : x290.toInt = 0 := by rw [e291]; rfl
                  refine aw_step (f1 := (173, [some (.ref 65), some (.int bo), some (.int f), some (.int t), some (.int more), some (.int c), some (.int dd), some (.int x212), some (.int x287), some (.int x290)], [])) (w1 := w284) rfl rfl ?_
                  refine aw_step (f1 := (175, [some (.ref 65), some (.int bo), some (.int f), some (.int t), some (.int more), some (.int c), some (.int dd), some (.int x212), some (.int x287), some (.int x290)], [(.int more)])) (w1 := w284) rfl rfl ?_
                  refine s_if 188 178 rfl rfl rfl (fun (h292 : ¬ more.toInt = 0) => ?_) (fun (h292 : ¬ (¬ more.toInt = 0)) => ?_)
                  · --
                    refine s_i (pc1 := 189) (ls1 := [some (.ref 65), some (.int bo), some (.int f), some (.int t), some (.int more), some (.int c), some (.int dd), some (.int x212), some (.int x287), some (.int x290)]) (st1 := []) rfl rfl fun x293 e294 => ?_
                    have e294t : x293.toInt = 1 := by rw [e294]; rfl
                    refine aw_step (f1 := (193, [some (.ref 65), some (.int bo), some (.int f), some (.int t), some (.int more), some (.int c), some (.int dd), some (.int x212), some (.int x287), some (.int x290)], [(.int x293)])) (w1 := w284) rfl rfl ?_
                    refine aw_step (f1 := (195, [some (.ref 65), some (.int bo), some (.int f), some (.int t), some (.int x293), some (.int c), some (.int dd), some (.int x212), some (.int x287), some (.int x290)], [])) (w1 := w284) rfl rfl ?_
                    refine aw_step (f1 := (198, [some (.ref 65), some (.int bo), some (.int f), some (.int t), some (.int x293), some (.int c), some (.int (dd + Int32.ofInt 1)), some (.int x212), some (.int x287), some (.int x290)], [])) (w1 := w284) rfl rfl ?_
                    obtain ⟨x295, x295e⟩ : ∃ z, z = (dd + Int32.ofInt 1) := ⟨_, rfl⟩
                    have x295t : x295.toInt = dd.toInt + (1) := by rw [x295e]; exact n_add (y := Int32.ofInt (1)) (by show _ ≤ _ + (1 : Int); omega) (by show _ + (1 : Int) ≤ _; omega)
                    rw [← x295e]
                    refine aw_step (f1 := (48, [some (.ref 65), some (.int bo), some (.int f), some (.int t), some (.int x293), some (.int c), some (.int x295), some (.int x212), some (.int x287), some (.int x290)], [])) (w1 := w284) rfl rfl ?_
                    exact ih w284 x293 x295 _ _ _ (by omega) (by omega) (by omega) J285 (by omega) (by omega)
                  · --
                    refine aw_step (f1 := (180, [some (.ref 65), some (.int bo), some (.int f), some (.int t), some (.int more), some (.int c), some (.int dd), some (.int x212), some (.int x287), some (.int x290)], [(.int x287)])) (w1 := w284) rfl rfl ?_
                    refine s_if 188 183 rfl rfl rfl (fun (h296 : ¬ x287.toInt = 0) => ?_) (fun (h296 : ¬ (¬ x287.toInt = 0)) => ?_)
                    · --
                      refine s_i (pc1 := 189) (ls1 := [some (.ref 65), some (.int bo), some (.int f), some (.int t), some (.int more), some (.int c), some (.int dd), some (.int x212), some (.int x287), some (.int x290)]) (st1 := []) rfl rfl fun x297 e298 => ?_
                      have e298t : x297.toInt = 1 := by rw [e298]; rfl
                      refine aw_step (f1 := (193, [some (.ref 65), some (.int bo), some (.int f), some (.int t), some (.int more), some (.int c), some (.int dd), some (.int x212), some (.int x287), some (.int x290)], [(.int x297)])) (w1 := w284) rfl rfl ?_
                      refine aw_step (f1 := (195, [some (.ref 65), some (.int bo), some (.int f), some (.int t), some (.int x297), some (.int c), some (.int dd), some (.int x212), some (.int x287), some (.int x290)], [])) (w1 := w284) rfl rfl ?_
                      refine aw_step (f1 := (198, [some (.ref 65), some (.int bo), some (.int f), some (.int t), some (.int x297), some (.int c), some (.int (dd + Int32.ofInt 1)), some (.int x212), some (.int x287), some (.int x290)], [])) (w1 := w284) rfl rfl ?_
                      obtain ⟨x299, x299e⟩ : ∃ z, z = (dd + Int32.ofInt 1) := ⟨_, rfl⟩
                      have x299t : x299.toInt = dd.toInt + (1) := by rw [x299e]; exact n_add (y := Int32.ofInt (1)) (by show _ ≤ _ + (1 : Int); omega) (by show _ + (1 : Int) ≤ _; omega)
                      rw [← x299e]
                      refine aw_step (f1 := (48, [some (.ref 65), some (.int bo), some (.int f), some (.int t), some (.int x297), some (.int c), some (.int x299), some (.int x212), some (.int x287), some (.int x290)], [])) (w1 := w284) rfl rfl ?_
                      exact ih w284 x297 x299 _ _ _ (by omega) (by omega) (by omega) J285 (by omega) (by omega)
                    · --
                      refine aw_step (f1 := (185, [some (.ref 65), some (.int bo), some (.int f), some (.int t), some (.int more), some (.int c), some (.int dd), some (.int x212), some (.int x287), some (.int x290)], [(.int x290)])) (w1 := w284) rfl rfl ?_
                      refine s_if 192 188 rfl rfl rfl (fun (h300 : x290.toInt = 0) => ?_) (fun (h300 : ¬ (x290.toInt = 0)) => ?_)
                      · --
                        refine s_i (pc1 := 193) (ls1 := [some (.ref 65), some (.int bo), some (.int f), some (.int t), some (.int more), some (.int c), some (.int dd), some (.int x212), some (.int x287), some (.int x290)]) (st1 := []) rfl rfl fun x301 e302 => ?_
                        have e302t : x301.toInt = 0 := by rw [e302]; rfl
                        refine aw_step (f1 := (195, [some (.ref 65), some (.int bo), some (.int f), some (.int t), some (.int x301), some (.int c), some (.int dd), some (.int x212), some (.int x287), some (.int x290)], [])) (w1 := w284) rfl rfl ?_
                        refine aw_step (f1 := (198, [some (.ref 65), some (.int bo), some (.int f), some (.int t), some (.int x301), some (.int c), some (.int (dd + Int32.ofInt 1)), some (.int x212), some (.int x287), some (.int x290)], [])) (w1 := w284) rfl rfl ?_
                        obtain ⟨x303, x303e⟩ : ∃ z, z = (dd + Int32.ofInt 1) := ⟨_, rfl⟩
                        have x303t : x303.toInt = dd.toInt + (1) := by rw [x303e]; exact n_add (y := Int32.ofInt (1)) (by show _ ≤ _ + (1 : Int); omega) (by show _ + (1 : Int) ≤ _; omega)
                        rw [← x303e]
                        refine aw_step (f1 := (48, [some (.ref 65), some (.int bo), some (.int f), some (.int t), some (.int x301), some (.int c), some (.int x303), some (.int x212), some (.int x287), some (.int x290)], [])) (w1 := w284) rfl rfl ?_
                        exact ih w284 x301 x303 _ _ _ (by omega) (by omega) (by omega) J285 (by omega) (by omega)
                      · --
                        refine s_i (pc1 := 189) (ls1 := [some (.ref 65), some (.int bo), some (.int f), some (.int t), some (.int more), some (.int c), some (.int dd), some (.int x212), some (.int x287), some (.int x290)]) (st1 := []) rfl rfl fun x304 e305 => ?_
                        have e305t : x304.toInt = 1 := by rw [e305]; rfl
                        refine aw_step (f1 := (193, [some (.ref 65), some (.int bo), some (.int f), some (.int t), some (.int more), some (.int c), some (.int dd), some (.int x212), some (.int x287), some (.int x290)], [(.int x304)])) (w1 := w284) rfl rfl ?_
                        refine aw_step (f1 := (195, [some (.ref 65), some (.int bo), some (.int f), some (.int t), some (.int x304), some (.int c), some (.int dd), some (.int x212), some (.int x287), some (.int x290)], [])) (w1 := w284) rfl rfl ?_
                        refine aw_step (f1 := (198, [some (.ref 65), some (.int bo), some (.int f), some (.int t), some (.int x304), some (.int c), some (.int (dd + Int32.ofInt 1)), some (.int x212), some (.int x287), some (.int x290)], [])) (w1 := w284) rfl rfl ?_
                        obtain ⟨x306, x306e⟩ : ∃ z, z = (dd + Int32.ofInt 1) := ⟨_, rfl⟩
                        have x306t : x306.toInt = dd.toInt + (1) := by rw [x306e]; exact n_add (y := Int32.ofInt (1)) (by show _ ≤ _ + (1 : Int); omega) (by show _ + (1 : Int) ≤ _; omega)
                        rw [← x306e]
                        refine aw_step (f1 := (48, [some (.ref 65), some (.int bo), some (.int f), some (.int t), some (.int x304), some (.int c), some (.int x306), some (.int x212), some (.int x287), some (.int x290)], [])) (w1 := w284) rfl rfl ?_
                        exact ih w284 x304 x306 _ _ _ (by omega) (by omega) (by omega) J285 (by omega) (by omega)
                · --
                  refine aw_step (f1 := (146, [some (.ref 65), some (.int bo), some (.int f), some (.int t), some (.int more), some (.int c), some (.int dd), some (.int x212), some (.int x287), o9], [(.ref 65)])) (w1 := w284) rfl rfl ?_
                  refine aw_step (f1 := (148, [some (.ref 65), some (.int bo), some (.int f), some (.int t), some (.int more), some (.int c), some (.int dd), some (.int x212), some (.int x287), o9], [(.int dd), (.ref 65)])) (w1 := w284) rfl rfl ?_
                  refine aw_step (f1 := (149, [some (.ref 65), some (.int bo), some (.int f), some (.int t), some (.int more), some (.int c), some (.int dd), some (.int x212), some (.int x287), o9], [(.ref 65), (.int dd), (.ref 65)])) (w1 := w284) rfl rfl ?_
                  refine s_gr 78 J285 152 rfl rfl rfl rfl rfl rfl ?_
                  refine aw_step (f1 := (154, [some (.ref 65), some (.int bo), some (.int f), some (.int t), some (.int more), some (.int c), some (.int dd), some (.int x212), some (.int x287), o9], [(.int c), (.ref 78), (.int dd), (.ref 65)])) (w1 := w284) rfl rfl ?_
                  refine s_ia J285 155 rfl rfl rfl rfl (by omega) (by omega) fun x307 x307a x307b x307f => ?_
                  refine aw_step (f1 := (156, [some (.ref 65), some (.int bo), some (.int f), some (.int t), some (.int more), some (.int c), some (.int dd), some (.int x212), some (.int x287), o9], [(.ref 65), (.int x307), (.int dd), (.ref 65)])) (w1 := w284) rfl rfl ?_
                  refine s_gi J285 159 rfl rfl rfl rfl rfl rfl fun x308 x308a x308b x308f => ?_
                  refine s_i (pc1 := 160) (ls1 := [some (.ref 65), some (.int bo), some (.int f), some (.int t), some (.int more), some (.int c), some (.int dd), some (.int x212), some (.int x287), o9]) (st1 := [(.int dd), (.ref 65)]) rfl rfl fun x309 e310 => ?_
                  have e310 : x309 = x307 + x308 := e310
                  have e310t : x309.toInt = x307.toInt + x308.toInt := by rw [e310]; exact n_add (by omega) (by omega)
                  refine s_cv (z := 147) (p := 65) (as := [(.int dd), (.int x309)]) (st1 := []) J285 163 rfl rfl rfl rfl rfl rfl rfl rfl (Nat.le_of_ble_eq_true rfl) (Nat.le_of_ble_eq_true rfl) (q_cheapen dd x309 ⟨by omega, by omega⟩ (by omega) J285.1) ?_
                  rintro _ w312 ⟨x311, rfl, J313c, w312o, w312p⟩
                  have J313 := J285.trans J313c
                  refine ⟨am_len2 J285 J313c, ?_⟩
                  show aw none _ 151 _ (163, [some (.ref 65), some (.int bo), some (.int f), some (.int t), some (.int more), some (.int c), some (.int dd), some (.int x212), some (.int x287), o9], [(.int x311)]) w312
                  have w312s := w312p.s (by omega)
                  have w312z := w312o.sz (by decide)
                  refine s_if 170 166 rfl rfl rfl (fun (h314 : x311.toInt = 0) => ?_) (fun (h314 : ¬ (x311.toInt = 0)) => ?_)
                  · --
                    refine s_i (pc1 := 171) (ls1 := [some (.ref 65), some (.int bo), some (.int f), some (.int t), some (.int more), some (.int c), some (.int dd), some (.int x212), some (.int x287), o9]) (st1 := []) rfl rfl fun x315 e316 => ?_
                    have e316t : x315.toInt = 0 := by rw [e316]; rfl
                    refine aw_step (f1 := (173, [some (.ref 65), some (.int bo), some (.int f), some (.int t), some (.int more), some (.int c), some (.int dd), some (.int x212), some (.int x287), some (.int x315)], [])) (w1 := w312) rfl rfl ?_
                    refine aw_step (f1 := (175, [some (.ref 65), some (.int bo), some (.int f), some (.int t), some (.int more), some (.int c), some (.int dd), some (.int x212), some (.int x287), some (.int x315)], [(.int more)])) (w1 := w312) rfl rfl ?_
                    refine s_if 188 178 rfl rfl rfl (fun (h317 : ¬ more.toInt = 0) => ?_) (fun (h317 : ¬ (¬ more.toInt = 0)) => ?_)
                    · --
                      refine s_i (pc1 := 189) (ls1 := [some (.ref 65), some (.int bo), some (.int f), some (.int t), some (.int more), some (.int c), some (.int dd), some (.int x212), some (.int x287), some (.int x315)]) (st1 := []) rfl rfl fun x318 e319 => ?_
                      have e319t : x318.toInt = 1 := by rw [e319]; rfl
                      refine aw_step (f1 := (193, [some (.ref 65), some (.int bo), some (.int f), some (.int t), some (.int more), some (.int c), some (.int dd), some (.int x212), some (.int x287), some (.int x315)], [(.int x318)])) (w1 := w312) rfl rfl ?_
                      refine aw_step (f1 := (195, [some (.ref 65), some (.int bo), some (.int f), some (.int t), some (.int x318), some (.int c), some (.int dd), some (.int x212), some (.int x287), some (.int x315)], [])) (w1 := w312) rfl rfl ?_
                      refine aw_step (f1 := (198, [some (.ref 65), some (.int bo), some (.int f), some (.int t), some (.int x318), some (.int c), some (.int (dd + Int32.ofInt 1)), some (.int x212), some (.int x287), some (.int x315)], [])) (w1 := w312) rfl rfl ?_
                      obtain ⟨x320, x320e⟩ : ∃ z, z = (dd + Int32.ofInt 1) := ⟨_, rfl⟩
                      have x320t : x320.toInt = dd.toInt + (1) := by rw [x320e]; exact n_add (y := Int32.ofInt (1)) (by show _ ≤ _ + (1 : Int); omega) (by show _ + (1 : Int) ≤ _; omega)
                      rw [← x320e]
                      refine aw_step (f1 := (48, [some (.ref 65), some (.int bo), some (.int f), some (.int t), some (.int x318), some (.int c), some (.int x320), some (.int x212), some (.int x287), some (.int x315)], [])) (w1 := w312) rfl rfl ?_
                      exact ih w312 x318 x320 _ _ _ (by omega) (by omega) (by omega) J313 (by omega) (by omega)
                    · --
                      refine aw_step (f1 := (180, [some (.ref 65), some (.int bo), some (.int f), some (.int t), some (.int more), some (.int c), some (.int dd), some (.int x212), some (.int x287), some (.int x315)], [(.int x287)])) (w1 := w312) rfl rfl ?_
                      refine s_if 188 183 rfl rfl rfl (fun (h321 : ¬ x287.toInt = 0) => ?_) (fun (h321 : ¬ (¬ x287.toInt = 0)) => ?_)
                      · --
                        refine s_i (pc1 := 189) (ls1 := [some (.ref 65), some (.int bo), some (.int f), some (.int t), some (.int more), some (.int c), some (.int dd), some (.int x212), some (.int x287), some (.int x315)]) (st1 := []) rfl rfl fun x322 e323 => ?_
                        have e323t : x322.toInt = 1 := by rw [e323]; rfl
                        refine aw_step (f1 := (193, [some (.ref 65), some (.int bo), some (.int f), some (.int t), some (.int more), some (.int c), some (.int dd), some (.int x212), some (.int x287), some (.int x315)], [(.int x322)])) (w1 := w312) rfl rfl ?_
                        refine aw_step (f1 := (195, [some (.ref 65), some (.int bo), some (.int f), some (.int t), some (.int x322), some (.int c), some (.int dd), some (.int x212), some (.int x287), some (.int x315)], [])) (w1 := w312) rfl rfl ?_
                        refine aw_step (f1 := (198, [some (.ref 65), some (.int bo), some (.int f), some (.int t), some (.int x322), some (.int c), some (.int (dd + Int32.ofInt 1)), some (.int x212), some (.int x287), some (.int x315)], [])) (w1 := w312) rfl rfl ?_
                        obtain ⟨x324, x324e⟩ : ∃ z, z = (dd + Int32.ofInt 1) := ⟨_, rfl⟩
                        have x324t : x324.toInt = dd.toInt + (1) := by rw [x324e]; exact n_add (y := Int32.ofInt (1)) (by show _ ≤ _ + (1 : Int); omega) (by show _ + (1 : Int) ≤ _; omega)
                        rw [← x324e]
                        refine aw_step (f1 := (48, [some (.ref 65), some (.int bo), some (.int f), some (.int t), some (.int x322), some (.int c), some (.int x324), some (.int x212), some (.int x287), some (.int x315)], [])) (w1 := w312) rfl rfl ?_
                        exact ih w312 x322 x324 _ _ _ (by omega) (by omega) (by omega) J313 (by omega) (by omega)
                      · --
                        refine aw_step (f1 := (185, [some (.ref 65), some (.int bo), some (.int f), some (.int t), some (.int more), some (.int c), some (.int dd), some (.int x212), some (.int x287), some (.int x315)], [(.int x315)])) (w1 := w312) rfl rfl ?_
                        refine s_if 192 188 rfl rfl rfl (fun (h325 : x315.toInt = 0) => ?_) (fun (h325 : ¬ (x315.toInt = 0)) => ?_)
                        · --
                          refine s_i (pc1 := 193) (ls1 := [some (.ref 65), some (.int bo), some (.int f), some (.int t), some (.int more), some (.int c), some (.int dd), some (.int x212), some (.int x287), some (.int x315)]) (st1 := []) rfl rfl fun x326 e327 => ?_
                          have e327t : x326.toInt = 0 := by rw [e327]; rfl
                          refine aw_step (f1 := (195, [some (.ref 65), some (.int bo), some (.int f), some (.int t), some (.int x326), some (.int c), some (.int dd), some (.int x212), some (.int x287), some (.int x315)], [])) (w1 := w312) rfl rfl ?_
                          refine aw_step (f1 := (198, [some (.ref 65), some (.int bo), some (.int f), some (.int t), some (.int x326), some (.int c), some (.int (dd + Int32.ofInt 1)), some (.int x212), some (.int x287), some (.int x315)], [])) (w1 := w312) rfl rfl ?_
                          obtain ⟨x328, x328e⟩ : ∃ z, z = (dd + Int32.ofInt 1) := ⟨_, rfl⟩
                          have x328t : x328.toInt = dd.toInt + (1) := by rw [x328e]; exact n_add (y := Int32.ofInt (1)) (by show _ ≤ _ + (1 : Int); omega) (by show _ + (1 : Int) ≤ _; omega)
                          rw [← x328e]
                          refine aw_step (f1 := (48, [some (.ref 65), some (.int bo), some (.int f), some (.int t), some (.int x326), some (.int c), some (.int x328), some (.int x212), some (.int x287), some (.int x315)], [])) (w1 := w312) rfl rfl ?_
                          exact ih w312 x326 x328 _ _ _ (by omega) (by omega) (by omega) J313 (by omega) (by omega)
                        · --
                          refine s_i (pc1 := 189) (ls1 := [some (.ref 65), some (.int bo), some (.int f), some (.int t), some (.int more), some (.int c), some (.int dd), some (.int x212), some (.int x287), some (.int x315)]) (st1 := []) rfl rfl fun x329 e330 => ?_
                          have e330t : x329.toInt = 1 := by rw [e330]; rfl
                          refine aw_step (f1 := (193, [some (.ref 65), some (.int bo), some (.int f), some (.int t), some (.int more), some (.int c), some (.int dd), some (.int x212), some (.int x287), some (.int x315)], [(.int x329)])) (w1 := w312) rfl rfl ?_
                          refine aw_step (f1 := (195, [some (.ref 65), some (.int bo), some (.int f), some (.int t), some (.int x329), some (.int c), some (.int dd), some (.int x212), some (.int x287), some (.int x315)], [])) (w1 := w312) rfl rfl ?_
                          refine aw_step (f1 := (198, [some (.ref 65), some (.int bo), some (.int f), some (.int t), some (.int x329), some (.int c), some (.int (dd + Int32.ofInt 1)), some (.int x212), some (.int x287), some (.int x315)], [])) (w1 := w312) rfl rfl ?_
                          obtain ⟨x331, x331e⟩ : ∃ z, z = (dd + Int32.ofInt 1) := ⟨_, rfl⟩
                          have x331t : x331.toInt = dd.toInt + (1) := by rw [x331e]; exact n_add (y := Int32.ofInt (1)) (by show _ ≤ _ + (1 : Int); omega) (by show _ + (1 : Int) ≤ _; omega)
                          rw [← x331e]
                          refine aw_step (f1 := (48, [some (.ref 65), some (.int bo), some (.int f), some (.int t), some (.int x329), some (.int c), some (.int x331), some (.int x212), some (.int x287), some (.int x315)], [])) (w1 := w312) rfl rfl ?_
                          exact ih w312 x329 x331 _ _ _ (by omega) (by omega) (by omega) J313 (by omega) (by omega)
                  · --
                    refine s_i (pc1 := 167) (ls1 := [some (.ref 65), some (.int bo), some (.int f), some (.int t), some (.int more), some (.int c), some (.int dd), some (.int x212), some (.int x287), o9]) (st1 := []) rfl rfl fun x332 e333 => ?_
                    have e333t : x332.toInt = 1 := by rw [e333]; rfl
                    refine aw_step (f1 := (171, [some (.ref 65), some (.int bo), some (.int f), some (.int t), some (.int more), some (.int c), some (.int dd), some (.int x212), some (.int x287), o9], [(.int x332)])) (w1 := w312) rfl rfl ?_
                    refine aw_step (f1 := (173, [some (.ref 65), some (.int bo), some (.int f), some (.int t), some (.int more), some (.int c), some (.int dd), some (.int x212), some (.int x287), some (.int x332)], [])) (w1 := w312) rfl rfl ?_
                    refine aw_step (f1 := (175, [some (.ref 65), some (.int bo), some (.int f), some (.int t), some (.int more), some (.int c), some (.int dd), some (.int x212), some (.int x287), some (.int x332)], [(.int more)])) (w1 := w312) rfl rfl ?_
                    refine s_if 188 178 rfl rfl rfl (fun (h334 : ¬ more.toInt = 0) => ?_) (fun (h334 : ¬ (¬ more.toInt = 0)) => ?_)
                    · --
                      refine s_i (pc1 := 189) (ls1 := [some (.ref 65), some (.int bo), some (.int f), some (.int t), some (.int more), some (.int c), some (.int dd), some (.int x212), some (.int x287), some (.int x332)]) (st1 := []) rfl rfl fun x335 e336 => ?_
                      have e336t : x335.toInt = 1 := by rw [e336]; rfl
                      refine aw_step (f1 := (193, [some (.ref 65), some (.int bo), some (.int f), some (.int t), some (.int more), some (.int c), some (.int dd), some (.int x212), some (.int x287), some (.int x332)], [(.int x335)])) (w1 := w312) rfl rfl ?_
                      refine aw_step (f1 := (195, [some (.ref 65), some (.int bo), some (.int f), some (.int t), some (.int x335), some (.int c), some (.int dd), some (.int x212), some (.int x287), some (.int x332)], [])) (w1 := w312) rfl rfl ?_
                      refine aw_step (f1 := (198, [some (.ref 65), some (.int bo), some (.int f), some (.int t), some (.int x335), some (.int c), some (.int (dd + Int32.ofInt 1)), some (.int x212), some (.int x287), some (.int x332)], [])) (w1 := w312) rfl rfl ?_
                      obtain ⟨x337, x337e⟩ : ∃ z, z = (dd + Int32.ofInt 1) := ⟨_, rfl⟩
                      have x337t : x337.toInt = dd.toInt + (1) := by rw [x337e]; exact n_add (y := Int32.ofInt (1)) (by show _ ≤ _ + (1 : Int); omega) (by show _ + (1 : Int) ≤ _; omega)
                      rw [← x337e]
                      refine aw_step (f1 := (48, [some (.ref 65), some (.int bo), some (.int f), some (.int t), some (.int x335), some (.int c), some (.int x337), some (.int x212), some (.int x287), some (.int x332)], [])) (w1 := w312) rfl rfl ?_
                      exact ih w312 x335 x337 _ _ _ (by omega) (by omega) (by omega) J313 (by omega) (by omega)
                    · --
                      refine aw_step (f1 := (180, [some (.ref 65), some (.int bo), some (.int f), some (.int t), some (.int more), some (.int c), some (.int dd), some (.int x212), some (.int x287), some (.int x332)], [(.int x287)])) (w1 := w312) rfl rfl ?_
                      refine s_if 188 183 rfl rfl rfl (fun (h338 : ¬ x287.toInt = 0) => ?_) (fun (h338 : ¬ (¬ x287.toInt = 0)) => ?_)
                      · --
                        refine s_i (pc1 := 189) (ls1 := [some (.ref 65), some (.int bo), some (.int f), some (.int t), some (.int more), some (.int c), some (.int dd), some (.int x212), some (.int x287), some (.int x332)]) (st1 := []) rfl rfl fun x339 e340 => ?_
                        have e340t : x339.toInt = 1 := by rw [e340]; rfl
                        refine aw_step (f1 := (193, [some (.ref 65), some (.int bo), some (.int f), some (.int t), some (.int more), some (.int c), some (.int dd), some (.int x212), some (.int x287), some (.int x332)], [(.int x339)])) (w1 := w312) rfl rfl ?_
                        refine aw_step (f1 := (195, [some (.ref 65), some (.int bo), some (.int f), some (.int t), some (.int x339), some (.int c), some (.int dd), some (.int x212), some (.int x287), some (.int x332)], [])) (w1 := w312) rfl rfl ?_
                        refine aw_step (f1 := (198, [some (.ref 65), some (.int bo), some (.int f), some (.int t), some (.int x339), some (.int c), some (.int (dd + Int32.ofInt 1)), some (.int x212), some (.int x287), some (.int x332)], [])) (w1 := w312) rfl rfl ?_
                        obtain ⟨x341, x341e⟩ : ∃ z, z = (dd + Int32.ofInt 1) := ⟨_, rfl⟩
                        have x341t : x341.toInt = dd.toInt + (1) := by rw [x341e]; exact n_add (y := Int32.ofInt (1)) (by show _ ≤ _ + (1 : Int); omega) (by show _ + (1 : Int) ≤ _; omega)
                        rw [← x341e]
                        refine aw_step (f1 := (48, [some (.ref 65), some (.int bo), some (.int f), some (.int t), some (.int x339), some (.int c), some (.int x341), some (.int x212), some (.int x287), some (.int x332)], [])) (w1 := w312) rfl rfl ?_
                        exact ih w312 x339 x341 _ _ _ (by omega) (by omega) (by omega) J313 (by omega) (by omega)
                      · --
                        refine aw_step (f1 := (185, [some (.ref 65), some (.int bo), some (.int f), some (.int t), some (.int more), some (.int c), some (.int dd), some (.int x212), some (.int x287), some (.int x332)], [(.int x332)])) (w1 := w312) rfl rfl ?_
                        refine s_if 192 188 rfl rfl rfl (fun (h342 : x332.toInt = 0) => ?_) (fun (h342 : ¬ (x332.toInt = 0)) => ?_)
                        · --
                          refine s_i (pc1 := 193) (ls1 := [some (.ref 65), some (.int bo), some (.int f), some (.int t), some (.int more), some (.int c), some (.int dd), some (.int x212), some (.int x287), some (.int x332)]) (st1 := []) rfl rfl fun x343 e344 => ?_
                          have e344t : x343.toInt = 0 := by rw [e344]; rfl
                          refine aw_step (f1 := (195, [some (.ref 65), some (.int bo), some (.int f), some (.int t), some (.int x343), some (.int c), some (.int dd), some (.int x212), some (.int x287), some (.int x332)], [])) (w1 := w312) rfl rfl ?_
                          refine aw_step (f1 := (198, [some (.ref 65), some (.int bo), some (.int f), some (.int t), some (.int x343), some (.int c), some (.int (dd + Int32.ofInt 1)), some (.int x212), some (.int x287), some (.int x332)], [])) (w1 := w312) rfl rfl ?_
                          obtain ⟨x345, x345e⟩ : ∃ z, z = (dd + Int32.ofInt 1) := ⟨_, rfl⟩
                          have x345t : x345.toInt = dd.toInt + (1) := by rw [x345e]; exact n_add (y := Int32.ofInt (1)) (by show _ ≤ _ + (1 : Int); omega) (by show _ + (1 : Int) ≤ _; omega)
                          rw [← x345e]
                          refine aw_step (f1 := (48, [some (.ref 65), some (.int bo), some (.int f), some (.int t), some (.int x343), some (.int c), some (.int x345), some (.int x212), some (.int x287), some (.int x332)], [])) (w1 := w312) rfl rfl ?_
                          exact ih w312 x343 x345 _ _ _ (by omega) (by omega) (by omega) J313 (by omega) (by omega)
                        · --
                          refine s_i (pc1 := 189) (ls1 := [some (.ref 65), some (.int bo), some (.int f), some (.int t), some (.int more), some (.int c), some (.int dd), some (.int x212), some (.int x287), some (.int x332)]) (st1 := []) rfl rfl fun x346 e347 => ?_
                          have e347t : x346.toInt = 1 := by rw [e347]; rfl
                          refine aw_step (f1 := (193, [some (.ref 65), some (.int bo), some (.int f), some (.int t), some (.int more), some (.int c), some (.int dd), some (.int x212), some (.int x287), some (.int x332)], [(.int x346)])) (w1 := w312) rfl rfl ?_
                          refine aw_step (f1 := (195, [some (.ref 65), some (.int bo), some (.int f), some (.int t), some (.int x346), some (.int c), some (.int dd), some (.int x212), some (.int x287), some (.int x332)], [])) (w1 := w312) rfl rfl ?_
                          refine aw_step (f1 := (198, [some (.ref 65), some (.int bo), some (.int f), some (.int t), some (.int x346), some (.int c), some (.int (dd + Int32.ofInt 1)), some (.int x212), some (.int x287), some (.int x332)], [])) (w1 := w312) rfl rfl ?_
                          obtain ⟨x348, x348e⟩ : ∃ z, z = (dd + Int32.ofInt 1) := ⟨_, rfl⟩
                          have x348t : x348.toInt = dd.toInt + (1) := by rw [x348e]; exact n_add (y := Int32.ofInt (1)) (by show _ ≤ _ + (1 : Int); omega) (by show _ + (1 : Int) ≤ _; omega)
                          rw [← x348e]
                          refine aw_step (f1 := (48, [some (.ref 65), some (.int bo), some (.int f), some (.int t), some (.int x346), some (.int c), some (.int x348), some (.int x212), some (.int x287), some (.int x332)], [])) (w1 := w312) rfl rfl ?_
                          exact ih w312 x346 x348 _ _ _ (by omega) (by omega) (by omega) J313 (by omega) (by omega)
              · --
                refine s_i (pc1 := 134) (ls1 := [some (.ref 65), some (.int bo), some (.int f), some (.int t), some (.int more), some (.int c), some (.int dd), some (.int x212), o8, o9]) (st1 := []) rfl rfl fun x349 e350 => ?_
                have e350t : x349.toInt = 1 := by rw [e350]; rfl
                refine aw_step (f1 := (138, [some (.ref 65), some (.int bo), some (.int f), some (.int t), some (.int more), some (.int c), some (.int dd), some (.int x212), o8, o9], [(.int x349)])) (w1 := w284) rfl rfl ?_
                refine aw_step (f1 := (140, [some (.ref 65), some (.int bo), some (.int f), some (.int t), some (.int more), some (.int c), some (.int dd), some (.int x212), some (.int x349), o9], [])) (w1 := w284) rfl rfl ?_
                refine aw_step (f1 := (142, [some (.ref 65), some (.int bo), some (.int f), some (.int t), some (.int more), some (.int c), some (.int dd), some (.int x212), some (.int x349), o9], [(.int x212)])) (w1 := w284) rfl rfl ?_
                refine s_if 170 145 rfl rfl rfl (fun (h351 : x212.toInt = 0) => ?_) (fun (h351 : ¬ (x212.toInt = 0)) => ?_)
                · --
                  refine s_i (pc1 := 171) (ls1 := [some (.ref 65), some (.int bo), some (.int f), some (.int t), some (.int more), some (.int c), some (.int dd), some (.int x212), some (.int x349), o9]) (st1 := []) rfl rfl fun x352 e353 => ?_
                  have e353t : x352.toInt = 0 := by rw [e353]; rfl
                  refine aw_step (f1 := (173, [some (.ref 65), some (.int bo), some (.int f), some (.int t), some (.int more), some (.int c), some (.int dd), some (.int x212), some (.int x349), some (.int x352)], [])) (w1 := w284) rfl rfl ?_
                  refine aw_step (f1 := (175, [some (.ref 65), some (.int bo), some (.int f), some (.int t), some (.int more), some (.int c), some (.int dd), some (.int x212), some (.int x349), some (.int x352)], [(.int more)])) (w1 := w284) rfl rfl ?_
                  refine s_if 188 178 rfl rfl rfl (fun (h354 : ¬ more.toInt = 0) => ?_) (fun (h354 : ¬ (¬ more.toInt = 0)) => ?_)
                  · --
                    refine s_i (pc1 := 189) (ls1 := [some (.ref 65), some (.int bo), some (.int f), some (.int t), some (.int more), some (.int c), some (.int dd), some (.int x212), some (.int x349), some (.int x352)]) (st1 := []) rfl rfl fun x355 e356 => ?_
                    have e356t : x355.toInt = 1 := by rw [e356]; rfl
                    refine aw_step (f1 := (193, [some (.ref 65), some (.int bo), some (.int f), some (.int t), some (.int more), some (.int c), some (.int dd), some (.int x212), some (.int x349), some (.int x352)], [(.int x355)])) (w1 := w284) rfl rfl ?_
                    refine aw_step (f1 := (195, [some (.ref 65), some (.int bo), some (.int f), some (.int t), some (.int x355), some (.int c), some (.int dd), some (.int x212), some (.int x349), some (.int x352)], [])) (w1 := w284) rfl rfl ?_
                    refine aw_step (f1 := (198, [some (.ref 65), some (.int bo), some (.int f), some (.int t), some (.int x355), some (.int c), some (.int (dd + Int32.ofInt 1)), some (.int x212), some (.int x349), some (.int x352)], [])) (w1 := w284) rfl rfl ?_
                    obtain ⟨x357, x357e⟩ : ∃ z, z = (dd + Int32.ofInt 1) := ⟨_, rfl⟩
                    have x357t : x357.toInt = dd.toInt + (1) := by rw [x357e]; exact n_add (y := Int32.ofInt (1)) (by show _ ≤ _ + (1 : Int); omega) (by show _ + (1 : Int) ≤ _; omega)
                    rw [← x357e]
                    refine aw_step (f1 := (48, [some (.ref 65), some (.int bo), some (.int f), some (.int t), some (.int x355), some (.int c), some (.int x357), some (.int x212), some (.int x349), some (.int x352)], [])) (w1 := w284) rfl rfl ?_
                    exact ih w284 x355 x357 _ _ _ (by omega) (by omega) (by omega) J285 (by omega) (by omega)
                  · --
                    refine aw_step (f1 := (180, [some (.ref 65), some (.int bo), some (.int f), some (.int t), some (.int more), some (.int c), some (.int dd), some (.int x212), some (.int x349), some (.int x352)], [(.int x349)])) (w1 := w284) rfl rfl ?_
                    refine s_if 188 183 rfl rfl rfl (fun (h358 : ¬ x349.toInt = 0) => ?_) (fun (h358 : ¬ (¬ x349.toInt = 0)) => ?_)
                    · --
                      refine s_i (pc1 := 189) (ls1 := [some (.ref 65), some (.int bo), some (.int f), some (.int t), some (.int more), some (.int c), some (.int dd), some (.int x212), some (.int x349), some (.int x352)]) (st1 := []) rfl rfl fun x359 e360 => ?_
                      have e360t : x359.toInt = 1 := by rw [e360]; rfl
                      refine aw_step (f1 := (193, [some (.ref 65), some (.int bo), some (.int f), some (.int t), some (.int more), some (.int c), some (.int dd), some (.int x212), some (.int x349), some (.int x352)], [(.int x359)])) (w1 := w284) rfl rfl ?_
                      refine aw_step (f1 := (195, [some (.ref 65), some (.int bo), some (.int f), some (.int t), some (.int x359), some (.int c), some (.int dd), some (.int x212), some (.int x349), some (.int x352)], [])) (w1 := w284) rfl rfl ?_
                      refine aw_step (f1 := (198, [some (.ref 65), some (.int bo), some (.int f), some (.int t), some (.int x359), some (.int c), some (.int (dd + Int32.ofInt 1)), some (.int x212), some (.int x349), some (.int x352)], [])) (w1 := w284) rfl rfl ?_
                      obtain ⟨x361, x361e⟩ : ∃ z, z = (dd + Int32.ofInt 1) := ⟨_, rfl⟩
                      have x361t : x361.toInt = dd.toInt + (1) := by rw [x361e]; exact n_add (y := Int32.ofInt (1)) (by show _ ≤ _ + (1 : Int); omega) (by show _ + (1 : Int) ≤ _; omega)
                      rw [← x361e]
                      refine aw_step (f1 := (48, [some (.ref 65), some (.int bo), some (.int f), some (.int t), some (.int x359), some (.int c), some (.int x361), some (.int x212), some (.int x349), some (.int x352)], [])) (w1 := w284) rfl rfl ?_
                      exact ih w284 x359 x361 _ _ _ (by omega) (by omega) (by omega) J285 (by omega) (by omega)
                    · --
                      refine aw_step (f1 := (185, [some (.ref 65), some (.int bo), some (.int f), some (.int t), some (.int more), some (.int c), some (.int dd), some (.int x212), some (.int x349), some (.int x352)], [(.int x352)])) (w1 := w284) rfl rfl ?_
                      refine s_if 192 188 rfl rfl rfl (fun (h362 : x352.toInt = 0) => ?_) (fun (h362 : ¬ (x352.toInt = 0)) => ?_)
                      · --
                        refine s_i (pc1 := 193) (ls1 := [some (.ref 65), some (.int bo), some (.int f), some (.int t), some (.int more), some (.int c), some (.int dd), some (.int x212), some (.int x349), some (.int x352)]) (st1 := []) rfl rfl fun x363 e364 => ?_
                        have e364t : x363.toInt = 0 := by rw [e364]; rfl
                        refine aw_step (f1 := (195, [some (.ref 65), some (.int bo), some (.int f), some (.int t), some (.int x363), some (.int c), some (.int dd), some (.int x212), some (.int x349), some (.int x352)], [])) (w1 := w284) rfl rfl ?_
                        refine aw_step (f1 := (198, [some (.ref 65), some (.int bo), some (.int f), some (.int t), some (.int x363), some (.int c), some (.int (dd + Int32.ofInt 1)), some (.int x212), some (.int x349), some (.int x352)], [])) (w1 := w284) rfl rfl ?_
                        obtain ⟨x365, x365e⟩ : ∃ z, z = (dd + Int32.ofInt 1) := ⟨_, rfl⟩
                        have x365t : x365.toInt = dd.toInt + (1) := by rw [x365e]; exact n_add (y := Int32.ofInt (1)) (by show _ ≤ _ + (1 : Int); omega) (by show _ + (1 : Int) ≤ _; omega)
                        rw [← x365e]
                        refine aw_step (f1 := (48, [some (.ref 65), some (.int bo), some (.int f), some (.int t), some (.int x363), some (.int c), some (.int x365), some (.int x212), some (.int x349), some (.int x352)], [])) (w1 := w284) rfl rfl ?_
                        exact ih w284 x363 x365 _ _ _ (by omega) (by omega) (by omega) J285 (by omega) (by omega)
                      · --
                        refine s_i (pc1 := 189) (ls1 := [some (.ref 65), some (.int bo), some (.int f), some (.int t), some (.int more), some (.int c), some (.int dd), some (.int x212), some (.int x349), some (.int x352)]) (st1 := []) rfl rfl fun x366 e367 => ?_
                        have e367t : x366.toInt = 1 := by rw [e367]; rfl
                        refine aw_step (f1 := (193, [some (.ref 65), some (.int bo), some (.int f), some (.int t), some (.int more), some (.int c), some (.int dd), some (.int x212), some (.int x349), some (.int x352)], [(.int x366)])) (w1 := w284) rfl rfl ?_
                        refine aw_step (f1 := (195, [some (.ref 65), some (.int bo), some (.int f), some (.int t), some (.int x366), some (.int c), some (.int dd), some (.int x212), some (.int x349), some (.int x352)], [])) (w1 := w284) rfl rfl ?_
                        refine aw_step (f1 := (198, [some (.ref 65), some (.int bo), some (.int f), some (.int t), some (.int x366), some (.int c), some (.int (dd + Int32.ofInt 1)), some (.int x212), some (.int x349), some (.int x352)], [])) (w1 := w284) rfl rfl ?_
                        obtain ⟨x368, x368e⟩ : ∃ z, z = (dd + Int32.ofInt 1) := ⟨_, rfl⟩
                        have x368t : x368.toInt = dd.toInt + (1) := by rw [x368e]; exact n_add (y := Int32.ofInt (1)) (by show _ ≤ _ + (1 : Int); omega) (by show _ + (1 : Int) ≤ _; omega)
                        rw [← x368e]
                        refine aw_step (f1 := (48, [some (.ref 65), some (.int bo), some (.int f), some (.int t), some (.int x366), some (.int c), some (.int x368), some (.int x212), some (.int x349), some (.int x352)], [])) (w1 := w284) rfl rfl ?_
                        exact ih w284 x366 x368 _ _ _ (by omega) (by omega) (by omega) J285 (by omega) (by omega)
                · --
                  refine aw_step (f1 := (146, [some (.ref 65), some (.int bo), some (.int f), some (.int t), some (.int more), some (.int c), some (.int dd), some (.int x212), some (.int x349), o9], [(.ref 65)])) (w1 := w284) rfl rfl ?_
                  refine aw_step (f1 := (148, [some (.ref 65), some (.int bo), some (.int f), some (.int t), some (.int more), some (.int c), some (.int dd), some (.int x212), some (.int x349), o9], [(.int dd), (.ref 65)])) (w1 := w284) rfl rfl ?_
                  refine aw_step (f1 := (149, [some (.ref 65), some (.int bo), some (.int f), some (.int t), some (.int more), some (.int c), some (.int dd), some (.int x212), some (.int x349), o9], [(.ref 65), (.int dd), (.ref 65)])) (w1 := w284) rfl rfl ?_
                  refine s_gr 78 J285 152 rfl rfl rfl rfl rfl rfl ?_
                  refine aw_step (f1 := (154, [some (.ref 65), some (.int bo), some (.int f), some (.int t), some (.int more), some (.int c), some (.int dd), some (.int x212), some (.int x349), o9], [(.int c), (.ref 78), (.int dd), (.ref 65)])) (w1 := w284) rfl rfl ?_
                  refine s_ia J285 155 rfl rfl rfl rfl (by omega) (by omega) fun x369 x369a x369b x369f => ?_
                  refine aw_step (f1 := (156, [some (.ref 65), some (.int bo), some (.int f), some (.int t), some (.int more), some (.int c), some (.int dd), some (.int x212), some (.int x349), o9], [(.ref 65), (.int x369), (.int dd), (.ref 65)])) (w1 := w284) rfl rfl ?_
                  refine s_gi J285 159 rfl rfl rfl rfl rfl rfl fun x370 x370a x370b x370f => ?_
                  refine s_i (pc1 := 160) (ls1 := [some (.ref 65), some (.int bo), some (.int f), some (.int t), some (.int more), some (.int c), some (.int dd), some (.int x212), some (.int x349), o9]) (st1 := [(.int dd), (.ref 65)]) rfl rfl fun x371 e372 => ?_
                  have e372 : x371 = x369 + x370 := e372
                  have e372t : x371.toInt = x369.toInt + x370.toInt := by rw [e372]; exact n_add (by omega) (by omega)
                  refine s_cv (z := 147) (p := 65) (as := [(.int dd), (.int x371)]) (st1 := []) J285 163 rfl rfl rfl rfl rfl rfl rfl rfl (Nat.le_of_ble_eq_true rfl) (Nat.le_of_ble_eq_true rfl) (q_cheapen dd x371 ⟨by omega, by omega⟩ (by omega) J285.1) ?_
                  rintro _ w374 ⟨x373, rfl, J375c, w374o, w374p⟩
                  have J375 := J285.trans J375c
                  refine ⟨am_len2 J285 J375c, ?_⟩
                  show aw none _ 151 _ (163, [some (.ref 65), some (.int bo), some (.int f), some (.int t), some (.int more), some (.int c), some (.int dd), some (.int x212), some (.int x349), o9], [(.int x373)]) w374
                  have w374s := w374p.s (by omega)
                  have w374z := w374o.sz (by decide)
                  refine s_if 170 166 rfl rfl rfl (fun (h376 : x373.toInt = 0) => ?_) (fun (h376 : ¬ (x373.toInt = 0)) => ?_)
                  · --
                    refine s_i (pc1 := 171) (ls1 := [some (.ref 65), some (.int bo), some (.int f), some (.int t), some (.int more), some (.int c), some (.int dd), some (.int x212), some (.int x349), o9]) (st1 := []) rfl rfl fun x377 e378 => ?_
                    have e378t : x377.toInt = 0 := by rw [e378]; rfl
                    refine aw_step (f1 := (173, [some (.ref 65), some (.int bo), some (.int f), some (.int t), some (.int more), some (.int c), some (.int dd), some (.int x212), some (.int x349), some (.int x377)], [])) (w1 := w374) rfl rfl ?_
                    refine aw_step (f1 := (175, [some (.ref 65), some (.int bo), some (.int f), some (.int t), some (.int more), some (.int c), some (.int dd), some (.int x212), some (.int x349), some (.int x377)], [(.int more)])) (w1 := w374) rfl rfl ?_
                    refine s_if 188 178 rfl rfl rfl (fun (h379 : ¬ more.toInt = 0) => ?_) (fun (h379 : ¬ (¬ more.toInt = 0)) => ?_)
                    · --
                      refine s_i (pc1 := 189) (ls1 := [some (.ref 65), some (.int bo), some (.int f), some (.int t), some (.int more), some (.int c), some (.int dd), some (.int x212), some (.int x349), some (.int x377)]) (st1 := []) rfl rfl fun x380 e381 => ?_
                      have e381t : x380.toInt = 1 := by rw [e381]; rfl
                      refine aw_step (f1 := (193, [some (.ref 65), some (.int bo), some (.int f), some (.int t), some (.int more), some (.int c), some (.int dd), some (.int x212), some (.int x349), some (.int x377)], [(.int x380)])) (w1 := w374) rfl rfl ?_
                      refine aw_step (f1 := (195, [some (.ref 65), some (.int bo), some (.int f), some (.int t), some (.int x380), some (.int c), some (.int dd), some (.int x212), some (.int x349), some (.int x377)], [])) (w1 := w374) rfl rfl ?_
                      refine aw_step (f1 := (198, [some (.ref 65), some (.int bo), some (.int f), some (.int t), some (.int x380), some (.int c), some (.int (dd + Int32.ofInt 1)), some (.int x212), some (.int x349), some (.int x377)], [])) (w1 := w374) rfl rfl ?_
                      obtain ⟨x382, x382e⟩ : ∃ z, z = (dd + Int32.ofInt 1) := ⟨_, rfl⟩
                      have x382t : x382.toInt = dd.toInt + (1) := by rw [x382e]; exact n_add (y := Int32.ofInt (1)) (by show _ ≤ _ + (1 : Int); omega) (by show _ + (1 : Int) ≤ _; omega)
                      rw [← x382e]
                      refine aw_step (f1 := (48, [some (.ref 65), some (.int bo), some (.int f), some (.int t), some (.int x380), some (.int c), some (.int x382), some (.int x212), some (.int x349), some (.int x377)], [])) (w1 := w374) rfl rfl ?_
                      exact ih w374 x380 x382 _ _ _ (by omega) (by omega) (by omega) J375 (by omega) (by omega)
                    · --
                      refine aw_step (f1 := (180, [some (.ref 65), some (.int bo), some (.int f), some (.int t), some (.int more), some (.int c), some (.int dd), some (.int x212), some (.int x349), some (.int x377)], [(.int x349)])) (w1 := w374) rfl rfl ?_
                      refine s_if 188 183 rfl rfl rfl (fun (h383 : ¬ x349.toInt = 0) => ?_) (fun (h383 : ¬ (¬ x349.toInt = 0)) => ?_)
                      · --
                        refine s_i (pc1 := 189) (ls1 := [some (.ref 65), some (.int bo), some (.int f), some (.int t), some (.int more), some (.int c), some (.int dd), some (.int x212), some (.int x349), some (.int x377)]) (st1 := []) rfl rfl fun x384 e385 => ?_
                        have e385t : x384.toInt = 1 := by rw [e385]; rfl
                        refine aw_step (f1 := (193, [some (.ref 65), some (.int bo), some (.int f), some (.int t), some (.int more), some (.int c), some (.int dd), some (.int x212), some (.int x349), some (.int x377)], [(.int x384)])) (w1 := w374) rfl rfl ?_
                        refine aw_step (f1 := (195, [some (.ref 65), some (.int bo), some (.int f), some (.int t), some (.int x384), some (.int c), some (.int dd), some (.int x212), some (.int x349), some (.int x377)], [])) (w1 := w374) rfl rfl ?_
                        refine aw_step (f1 := (198, [some (.ref 65), some (.int bo), some (.int f), some (.int t), some (.int x384), some (.int c), some (.int (dd + Int32.ofInt 1)), some (.int x212), some (.int x349), some (.int x377)], [])) (w1 := w374) rfl rfl ?_
                        obtain ⟨x386, x386e⟩ : ∃ z, z = (dd + Int32.ofInt 1) := ⟨_, rfl⟩
                        have x386t : x386.toInt = dd.toInt + (1) := by rw [x386e]; exact n_add (y := Int32.ofInt (1)) (by show _ ≤ _ + (1 : Int); omega) (by show _ + (1 : Int) ≤ _; omega)
                        rw [← x386e]
                        refine aw_step (f1 := (48, [some (.ref 65), some (.int bo), some (.int f), some (.int t), some (.int x384), some (.int c), some (.int x386), some (.int x212), some (.int x349), some (.int x377)], [])) (w1 := w374) rfl rfl ?_
                        exact ih w374 x384 x386 _ _ _ (by omega) (by omega) (by omega) J375 (by omega) (by omega)
                      · --
                        refine aw_step (f1 := (185, [some (.ref 65), some (.int bo), some (.int f), some (.int t), some (.int more), some (.int c), some (.int dd), some (.int x212), some (.int x349), some (.int x377)], [(.int x377)])) (w1 := w374) rfl rfl ?_
                        refine s_if 192 188 rfl rfl rfl (fun (h387 : x377.toInt = 0) => ?_) (fun (h387 : ¬ (x377.toInt = 0)) => ?_)
                        · --
                          refine s_i (pc1 := 193) (ls1 := [some (.ref 65), some (.int bo), some (.int f), some (.int t), some (.int more), some (.int c), some (.int dd), some (.int x212), some (.int x349), some (.int x377)]) (st1 := []) rfl rfl fun x388 e389 => ?_
                          have e389t : x388.toInt = 0 := by rw [e389]; rfl
                          refine aw_step (f1 := (195, [some (.ref 65), some (.int bo), some (.int f), some (.int t), some (.int x388), some (.int c), some (.int dd), some (.int x212), some (.int x349), some (.int x377)], [])) (w1 := w374) rfl rfl ?_
                          refine aw_step (f1 := (198, [some (.ref 65), some (.int bo), some (.int f), some (.int t), some (.int x388), some (.int c), some (.int (dd + Int32.ofInt 1)), some (.int x212), some (.int x349), some (.int x377)], [])) (w1 := w374) rfl rfl ?_
                          obtain ⟨x390, x390e⟩ : ∃ z, z = (dd + Int32.ofInt 1) := ⟨_, rfl⟩
                          have x390t : x390.toInt = dd.toInt + (1) := by rw [x390e]; exact n_add (y := Int32.ofInt (1)) (by show _ ≤ _ + (1 : Int); omega) (by show _ + (1 : Int) ≤ _; omega)
                          rw [← x390e]
                          refine aw_step (f1 := (48, [some (.ref 65), some (.int bo), some (.int f), some (.int t), some (.int x388), some (.int c), some (.int x390), some (.int x212), some (.int x349), some (.int x377)], [])) (w1 := w374) rfl rfl ?_
                          exact ih w374 x388 x390 _ _ _ (by omega) (by omega) (by omega) J375 (by omega) (by omega)
                        · --
                          refine s_i (pc1 := 189) (ls1 := [some (.ref 65), some (.int bo), some (.int f), some (.int t), some (.int more), some (.int c), some (.int dd), some (.int x212), some (.int x349), some (.int x377)]) (st1 := []) rfl rfl fun x391 e392 => ?_
                          have e392t : x391.toInt = 1 := by rw [e392]; rfl
                          refine aw_step (f1 := (193, [some (.ref 65), some (.int bo), some (.int f), some (.int t), some (.int more), some (.int c), some (.int dd), some (.int x212), some (.int x349), some (.int x377)], [(.int x391)])) (w1 := w374) rfl rfl ?_
                          refine aw_step (f1 := (195, [some (.ref 65), some (.int bo), some (.int f), some (.int t), some (.int x391), some (.int c), some (.int dd), some (.int x212), some (.int x349), some (.int x377)], [])) (w1 := w374) rfl rfl ?_
                          refine aw_step (f1 := (198, [some (.ref 65), some (.int bo), some (.int f), some (.int t), some (.int x391), some (.int c), some (.int (dd + Int32.ofInt 1)), some (.int x212), some (.int x349), some (.int x377)], [])) (w1 := w374) rfl rfl ?_
                          obtain ⟨x393, x393e⟩ : ∃ z, z = (dd + Int32.ofInt 1) := ⟨_, rfl⟩
                          have x393t : x393.toInt = dd.toInt + (1) := by rw [x393e]; exact n_add (y := Int32.ofInt (1)) (by show _ ≤ _ + (1 : Int); omega) (by show _ + (1 : Int) ≤ _; omega)
                          rw [← x393e]
                          refine aw_step (f1 := (48, [some (.ref 65), some (.int bo), some (.int f), some (.int t), some (.int x391), some (.int c), some (.int x393), some (.int x212), some (.int x349), some (.int x377)], [])) (w1 := w374) rfl rfl ?_
                          exact ih w374 x391 x393 _ _ _ (by omega) (by omega) (by omega) J375 (by omega) (by omega)
                  · --
                    refine s_i (pc1 := 167) (ls1 := [some (.ref 65), some (.int bo), some (.int f), some (.int t), some (.int more), some (.int c), some (.int dd), some (.int x212), some (.int x349), o9]) (st1 := []) rfl rfl fun x394 e395 => ?_
                    have e395t : x394.toInt = 1 := by rw [e395]; rfl
                    refine aw_step (f1 := (171, [some (.ref 65), some (.int bo), some (.int f), some (.int t), some (.int more), some (.int c), some (.int dd), some (.int x212), some (.int x349), o9], [(.int x394)])) (w1 := w374) rfl rfl ?_
                    refine aw_step (f1 := (173, [some (.ref 65), some (.int bo), some (.int f), some (.int t), some (.int more), some (.int c), some (.int dd), some (.int x212), some (.int x349), some (.int x394)], [])) (w1 := w374) rfl rfl ?_
                    refine aw_step (f1 := (175, [some (.ref 65), some (.int bo), some (.int f), some (.int t), some (.int more), some (.int c), some (.int dd), some (.int x212), some (.int x349), some (.int x394)], [(.int more)])) (w1 := w374) rfl rfl ?_
                    refine s_if 188 178 rfl rfl rfl (fun (h396 : ¬ more.toInt = 0) => ?_) (fun (h396 : ¬ (¬ more.toInt = 0)) => ?_)
                    · --
                      refine s_i (pc1 := 189) (ls1 := [some (.ref 65), some (.int bo), some (.int f), some (.int t), some (.int more), some (.int c), some (.int dd), some (.int x212), some (.int x349), some (.int x394)]) (st1 := []) rfl rfl fun x397 e398 => ?_
                      have e398t : x397.toInt = 1 := by rw [e398]; rfl
                      refine aw_step (f1 := (193, [some (.ref 65), some (.int bo), some (.int f), some (.int t), some (.int more), some (.int c), some (.int dd), some (.int x212), some (.int x349), some (.int x394)], [(.int x397)])) (w1 := w374) rfl rfl ?_
                      refine aw_step (f1 := (195, [some (.ref 65), some (.int bo), some (.int f), some (.int t), some (.int x397), some (.int c), some (.int dd), some (.int x212), some (.int x349), some (.int x394)], [])) (w1 := w374) rfl rfl ?_
                      refine aw_step (f1 := (198, [some (.ref 65), some (.int bo), some (.int f), some (.int t), some (.int x397), some (.int c), some (.int (dd + Int32.ofInt 1)), some (.int x212), some (.int x349), some (.int x394)], [])) (w1 := w374) rfl rfl ?_
                      obtain ⟨x399, x399e⟩ : ∃ z, z = (dd + Int32.ofInt 1) := ⟨_, rfl⟩
                      have x399t : x399.toInt = dd.toInt + (1) := by rw [x399e]; exact n_add (y := Int32.ofInt (1)) (by show _ ≤ _ + (1 : Int); omega) (by show _ + (1 : Int) ≤ _; omega)
                      rw [← x399e]
                      refine aw_step (f1 := (48, [some (.ref 65), some (.int bo), some (.int f), some (.int t), some (.int x397), some (.int c), some (.int x399), some (.int x212), some (.int x349), some (.int x394)], [])) (w1 := w374) rfl rfl ?_
                      exact ih w374 x397 x399 _ _ _ (by omega) (by omega) (by omega) J375 (by omega) (by omega)
                    · --
                      refine aw_step (f1 := (180, [some (.ref 65), some (.int bo), some (.int f), some (.int t), some (.int more), some (.int c), some (.int dd), some (.int x212), some (.int x349), some (.int x394)], [(.int x349)])) (w1 := w374) rfl rfl ?_
                      refine s_if 188 183 rfl rfl rfl (fun (h400 : ¬ x349.toInt = 0) => ?_) (fun (h400 : ¬ (¬ x349.toInt = 0)) => ?_)
                      · --
                        refine s_i (pc1 := 189) (ls1 := [some (.ref 65), some (.int bo), some (.int f), some (.int t), some (.int more), some (.int c), some (.int dd), some (.int x212), some (.int x349), some (.int x394)]) (st1 := []) rfl rfl fun x401 e402 => ?_
                        have e402t : x401.toInt = 1 := by rw [e402]; rfl
                        refine aw_step (f1 := (193, [some (.ref 65), some (.int bo), some (.int f), some (.int t), some (.int more), some (.int c), some (.int dd), some (.int x212), some (.int x349), some (.int x394)], [(.int x401)])) (w1 := w374) rfl rfl ?_
                        refine aw_step (f1 := (195, [some (.ref 65), some (.int bo), some (.int f), some (.int t), some (.int x401), some (.int c), some (.int dd), some (.int x212), some (.int x349), some (.int x394)], [])) (w1 := w374) rfl rfl ?_
                        refine aw_step (f1 := (198, [some (.ref 65), some (.int bo), some (.int f), some (.int t), some (.int x401), some (.int c), some (.int (dd + Int32.ofInt 1)), some (.int x212), some (.int x349), some (.int x394)], [])) (w1 := w374) rfl rfl ?_
                        obtain ⟨x403, x403e⟩ : ∃ z, z = (dd + Int32.ofInt 1) := ⟨_, rfl⟩
                        have x403t : x403.toInt = dd.toInt + (1) := by rw [x403e]; exact n_add (y := Int32.ofInt (1)) (by show _ ≤ _ + (1 : Int); omega) (by show _ + (1 : Int) ≤ _; omega)
                        rw [← x403e]
                        refine aw_step (f1 := (48, [some (.ref 65), some (.int bo), some (.int f), some (.int t), some (.int x401), some (.int c), some (.int x403), some (.int x212), some (.int x349), some (.int x394)], [])) (w1 := w374) rfl rfl ?_
                        exact ih w374 x401 x403 _ _ _ (by omega) (by omega) (by omega) J375 (by omega) (by omega)
                      · --
                        refine aw_step (f1 := (185, [some (.ref 65), some (.int bo), some (.int f), some (.int t), some (.int more), some (.int c), some (.int dd), some (.int x212), some (.int x349), some (.int x394)], [(.int x394)])) (w1 := w374) rfl rfl ?_
                        refine s_if 192 188 rfl rfl rfl (fun (h404 : x394.toInt = 0) => ?_) (fun (h404 : ¬ (x394.toInt = 0)) => ?_)
                        · --
                          refine s_i (pc1 := 193) (ls1 := [some (.ref 65), some (.int bo), some (.int f), some (.int t), some (.int more), some (.int c), some (.int dd), some (.int x212), some (.int x349), some (.int x394)]) (st1 := []) rfl rfl fun x405 e406 => ?_
                          have e406t : x405.toInt = 0 := by rw [e406]; rfl
                          refine aw_step (f1 := (195, [some (.ref 65), some (.int bo), some (.int f), some (.int t), some (.int x405), some (.int c), some (.int dd), some (.int x212), some (.int x349), some (.int x394)], [])) (w1 := w374) rfl rfl ?_
                          refine aw_step (f1 := (198, [some (.ref 65), some (.int bo), some (.int f), some (.int t), some (.int x405), some (.int c), some (.int (dd + Int32.ofInt 1)), some (.int x212), some (.int x349), some (.int x394)], [])) (w1 := w374) rfl rfl ?_
                          obtain ⟨x407, x407e⟩ : ∃ z, z = (dd + Int32.ofInt 1) := ⟨_, rfl⟩
                          have x407t : x407.toInt = dd.toInt + (1) := by rw [x407e]; exact n_add (y := Int32.ofInt (1)) (by show _ ≤ _ + (1 : Int); omega) (by show _ + (1 : Int) ≤ _; omega)
                          rw [← x407e]
                          refine aw_step (f1 := (48, [some (.ref 65), some (.int bo), some (.int f), some (.int t), some (.int x405), some (.int c), some (.int x407), some (.int x212), some (.int x349), some (.int x394)], [])) (w1 := w374) rfl rfl ?_
                          exact ih w374 x405 x407 _ _ _ (by omega) (by omega) (by omega) J375 (by omega) (by omega)
                        · --
                          refine s_i (pc1 := 189) (ls1 := [some (.ref 65), some (.int bo), some (.int f), some (.int t), some (.int more), some (.int c), some (.int dd), some (.int x212), some (.int x349), some (.int x394)]) (st1 := []) rfl rfl fun x408 e409 => ?_
                          have e409t : x408.toInt = 1 := by rw [e409]; rfl
                          refine aw_step (f1 := (193, [some (.ref 65), some (.int bo), some (.int f), some (.int t), some (.int more), some (.int c), some (.int dd), some (.int x212), some (.int x349), some (.int x394)], [(.int x408)])) (w1 := w374) rfl rfl ?_
                          refine aw_step (f1 := (195, [some (.ref 65), some (.int bo), some (.int f), some (.int t), some (.int x408), some (.int c), some (.int dd), some (.int x212), some (.int x349), some (.int x394)], [])) (w1 := w374) rfl rfl ?_
                          refine aw_step (f1 := (198, [some (.ref 65), some (.int bo), some (.int f), some (.int t), some (.int x408), some (.int c), some (.int (dd + Int32.ofInt 1)), some (.int x212), some (.int x349), some (.int x394)], [])) (w1 := w374) rfl rfl ?_
                          obtain ⟨x410, x410e⟩ : ∃ z, z = (dd + Int32.ofInt 1) := ⟨_, rfl⟩
                          have x410t : x410.toInt = dd.toInt + (1) := by rw [x410e]; exact n_add (y := Int32.ofInt (1)) (by show _ ≤ _ + (1 : Int); omega) (by show _ + (1 : Int) ≤ _; omega)
                          rw [← x410e]
                          refine aw_step (f1 := (48, [some (.ref 65), some (.int bo), some (.int f), some (.int t), some (.int x408), some (.int c), some (.int x410), some (.int x212), some (.int x349), some (.int x394)], [])) (w1 := w374) rfl rfl ?_
                          exact ih w374 x408 x410 _ _ _ (by omega) (by omega) (by omega) J375 (by omega) (by omega)
          · --
            refine s_i (pc1 := 91) (ls1 := [some (.ref 65), some (.int bo), some (.int f), some (.int t), some (.int more), some (.int c), some (.int dd), o7, o8, o9]) (st1 := []) rfl rfl fun x411 e412 => ?_
            have e412t : x411.toInt = 1 := by rw [e412]; rfl
            refine aw_step (f1 := (95, [some (.ref 65), some (.int bo), some (.int f), some (.int t), some (.int more), some (.int c), some (.int dd), o7, o8, o9], [(.int x411)])) (w1 := w) rfl rfl ?_
            refine aw_step (f1 := (97, [some (.ref 65), some (.int bo), some (.int f), some (.int t), some (.int more), some (.int c), some (.int dd), some (.int x411), o8, o9], [])) (w1 := w) rfl rfl ?_
            refine aw_step (f1 := (98, [some (.ref 65), some (.int bo), some (.int f), some (.int t), some (.int more), some (.int c), some (.int dd), some (.int x411), o8, o9], [(.ref 65)])) (w1 := w) rfl rfl ?_
            refine s_gr 74 J 101 rfl rfl rfl rfl rfl rfl ?_
            refine aw_step (f1 := (103, [some (.ref 65), some (.int bo), some (.int f), some (.int t), some (.int more), some (.int c), some (.int dd), some (.int x411), o8, o9], [(.int c), (.ref 74)])) (w1 := w) rfl rfl ?_
            refine s_la J 104 rfl rfl rfl (by omega) (by omega) fun y413 y413a y413b y413f => ?_
            refine aw_step (f1 := (106, [some (.ref 65), some (.int bo), some (.int f), some (.int t), some (.int more), some (.int c), some (.int dd), some (.int x411), o8, o9], [(.int dd), (.long y413)])) (w1 := w) rfl rfl ?_
            refine s_cs (z := 110) (as := [(.long y413), (.int dd)]) (st1 := []) 109 rfl rfl rfl rfl rfl rfl (Nat.le_of_ble_eq_true rfl) (Nat.le_of_ble_eq_true rfl) (Nat.le_of_ble_eq_true rfl) (q_has y413 dd (by omega) (by omega)) ?_
            rintro _ _ ⟨rfl, x414, rfl, x414t⟩
            refine ⟨rfl, ?_⟩
            show aw none _ 151 _ (109, [some (.ref 65), some (.int bo), some (.int f), some (.int t), some (.int more), some (.int c), some (.int dd), some (.int x411), o8, o9], [(.int x414)]) w
            have x414l := bt_le (n64 y413) dd.toInt.toNat
            refine s_if 137 112 rfl rfl rfl (fun (h415 : x414.toInt = 0) => ?_) (fun (h415 : ¬ (x414.toInt = 0)) => ?_)
            · --
              refine s_i (pc1 := 138) (ls1 := [some (.ref 65), some (.int bo), some (.int f), some (.int t), some (.int more), some (.int c), some (.int dd), some (.int x411), o8, o9]) (st1 := []) rfl rfl fun x416 e417 => ?_
              have e417t : x416.toInt = 0 := by rw [e417]; rfl
              refine aw_step (f1 := (140, [some (.ref 65), some (.int bo), some (.int f), some (.int t), some (.int more), some (.int c), some (.int dd), some (.int x411), some (.int x416), o9], [])) (w1 := w) rfl rfl ?_
              refine aw_step (f1 := (142, [some (.ref 65), some (.int bo), some (.int f), some (.int t), some (.int more), some (.int c), some (.int dd), some (.int x411), some (.int x416), o9], [(.int x411)])) (w1 := w) rfl rfl ?_
              refine s_if 170 145 rfl rfl rfl (fun (h418 : x411.toInt = 0) => ?_) (fun (h418 : ¬ (x411.toInt = 0)) => ?_)
              · --
                refine s_i (pc1 := 171) (ls1 := [some (.ref 65), some (.int bo), some (.int f), some (.int t), some (.int more), some (.int c), some (.int dd), some (.int x411), some (.int x416), o9]) (st1 := []) rfl rfl fun x419 e420 => ?_
                have e420t : x419.toInt = 0 := by rw [e420]; rfl
                refine aw_step (f1 := (173, [some (.ref 65), some (.int bo), some (.int f), some (.int t), some (.int more), some (.int c), some (.int dd), some (.int x411), some (.int x416), some (.int x419)], [])) (w1 := w) rfl rfl ?_
                refine aw_step (f1 := (175, [some (.ref 65), some (.int bo), some (.int f), some (.int t), some (.int more), some (.int c), some (.int dd), some (.int x411), some (.int x416), some (.int x419)], [(.int more)])) (w1 := w) rfl rfl ?_
                refine s_if 188 178 rfl rfl rfl (fun (h421 : ¬ more.toInt = 0) => ?_) (fun (h421 : ¬ (¬ more.toInt = 0)) => ?_)
                · --
                  refine s_i (pc1 := 189) (ls1 := [some (.ref 65), some (.int bo), some (.int f), some (.int t), some (.int more), some (.int c), some (.int dd), some (.int x411), some (.int x416), some (.int x419)]) (st1 := []) rfl rfl fun x422 e423 => ?_
                  have e423t : x422.toInt = 1 := by rw [e423]; rfl
                  refine aw_step (f1 := (193, [some (.ref 65), some (.int bo), some (.int f), some (.int t), some (.int more), some (.int c), some (.int dd), some (.int x411), some (.int x416), some (.int x419)], [(.int x422)])) (w1 := w) rfl rfl ?_
                  refine aw_step (f1 := (195, [some (.ref 65), some (.int bo), some (.int f), some (.int t), some (.int x422), some (.int c), some (.int dd), some (.int x411), some (.int x416), some (.int x419)], [])) (w1 := w) rfl rfl ?_
                  refine aw_step (f1 := (198, [some (.ref 65), some (.int bo), some (.int f), some (.int t), some (.int x422), some (.int c), some (.int (dd + Int32.ofInt 1)), some (.int x411), some (.int x416), some (.int x419)], [])) (w1 := w) rfl rfl ?_
                  obtain ⟨x424, x424e⟩ : ∃ z, z = (dd + Int32.ofInt 1) := ⟨_, rfl⟩
                  have x424t : x424.toInt = dd.toInt + (1) := by rw [x424e]; exact n_add (y := Int32.ofInt (1)) (by show _ ≤ _ + (1 : Int); omega) (by show _ + (1 : Int) ≤ _; omega)
                  rw [← x424e]
                  refine aw_step (f1 := (48, [some (.ref 65), some (.int bo), some (.int f), some (.int t), some (.int x422), some (.int c), some (.int x424), some (.int x411), some (.int x416), some (.int x419)], [])) (w1 := w) rfl rfl ?_
                  exact ih w x422 x424 _ _ _ (by omega) (by omega) (by omega) J (by omega) (by omega)
                · --
                  refine aw_step (f1 := (180, [some (.ref 65), some (.int bo), some (.int f), some (.int t), some (.int more), some (.int c), some (.int dd), some (.int x411), some (.int x416), some (.int x419)], [(.int x416)])) (w1 := w) rfl rfl ?_
                  refine s_if 188 183 rfl rfl rfl (fun (h425 : ¬ x416.toInt = 0) => ?_) (fun (h425 : ¬ (¬ x416.toInt = 0)) => ?_)
                  · --
                    refine s_i (pc1 := 189) (ls1 := [some (.ref 65), some (.int bo), some (.int f), some (.int t), some (.int more), some (.int c), some (.int dd), some (.int x411), some (.int x416), some (.int x419)]) (st1 := []) rfl rfl fun x426 e427 => ?_
                    have e427t : x426.toInt = 1 := by rw [e427]; rfl
                    refine aw_step (f1 := (193, [some (.ref 65), some (.int bo), some (.int f), some (.int t), some (.int more), some (.int c), some (.int dd), some (.int x411), some (.int x416), some (.int x419)], [(.int x426)])) (w1 := w) rfl rfl ?_
                    refine aw_step (f1 := (195, [some (.ref 65), some (.int bo), some (.int f), some (.int t), some (.int x426), some (.int c), some (.int dd), some (.int x411), some (.int x416), some (.int x419)], [])) (w1 := w) rfl rfl ?_
                    refine aw_step (f1 := (198, [some (.ref 65), some (.int bo), some (.int f), some (.int t), some (.int x426), some (.int c), some (.int (dd + Int32.ofInt 1)), some (.int x411), some (.int x416), some (.int x419)], [])) (w1 := w) rfl rfl ?_
                    obtain ⟨x428, x428e⟩ : ∃ z, z = (dd + Int32.ofInt 1) := ⟨_, rfl⟩
                    have x428t : x428.toInt = dd.toInt + (1) := by rw [x428e]; exact n_add (y := Int32.ofInt (1)) (by show _ ≤ _ + (1 : Int); omega) (by show _ + (1 : Int) ≤ _; omega)
                    rw [← x428e]
                    refine aw_step (f1 := (48, [some (.ref 65), some (.int bo), some (.int f), some (.int t), some (.int x426), some (.int c), some (.int x428), some (.int x411), some (.int x416), some (.int x419)], [])) (w1 := w) rfl rfl ?_
                    exact ih w x426 x428 _ _ _ (by omega) (by omega) (by omega) J (by omega) (by omega)
                  · --
                    refine aw_step (f1 := (185, [some (.ref 65), some (.int bo), some (.int f), some (.int t), some (.int more), some (.int c), some (.int dd), some (.int x411), some (.int x416), some (.int x419)], [(.int x419)])) (w1 := w) rfl rfl ?_
                    refine s_if 192 188 rfl rfl rfl (fun (h429 : x419.toInt = 0) => ?_) (fun (h429 : ¬ (x419.toInt = 0)) => ?_)
                    · --
                      refine s_i (pc1 := 193) (ls1 := [some (.ref 65), some (.int bo), some (.int f), some (.int t), some (.int more), some (.int c), some (.int dd), some (.int x411), some (.int x416), some (.int x419)]) (st1 := []) rfl rfl fun x430 e431 => ?_
                      have e431t : x430.toInt = 0 := by rw [e431]; rfl
                      refine aw_step (f1 := (195, [some (.ref 65), some (.int bo), some (.int f), some (.int t), some (.int x430), some (.int c), some (.int dd), some (.int x411), some (.int x416), some (.int x419)], [])) (w1 := w) rfl rfl ?_
                      refine aw_step (f1 := (198, [some (.ref 65), some (.int bo), some (.int f), some (.int t), some (.int x430), some (.int c), some (.int (dd + Int32.ofInt 1)), some (.int x411), some (.int x416), some (.int x419)], [])) (w1 := w) rfl rfl ?_
                      obtain ⟨x432, x432e⟩ : ∃ z, z = (dd + Int32.ofInt 1) := ⟨_, rfl⟩
                      have x432t : x432.toInt = dd.toInt + (1) := by rw [x432e]; exact n_add (y := Int32.ofInt (1)) (by show _ ≤ _ + (1 : Int); omega) (by show _ + (1 : Int) ≤ _; omega)
                      rw [← x432e]
                      refine aw_step (f1 := (48, [some (.ref 65), some (.int bo), some (.int f), some (.int t), some (.int x430), some (.int c), some (.int x432), some (.int x411), some (.int x416), some (.int x419)], [])) (w1 := w) rfl rfl ?_
                      exact ih w x430 x432 _ _ _ (by omega) (by omega) (by omega) J (by omega) (by omega)
                    · --
                      refine s_i (pc1 := 189) (ls1 := [some (.ref 65), some (.int bo), some (.int f), some (.int t), some (.int more), some (.int c), some (.int dd), some (.int x411), some (.int x416), some (.int x419)]) (st1 := []) rfl rfl fun x433 e434 => ?_
                      have e434t : x433.toInt = 1 := by rw [e434]; rfl
                      refine aw_step (f1 := (193, [some (.ref 65), some (.int bo), some (.int f), some (.int t), some (.int more), some (.int c), some (.int dd), some (.int x411), some (.int x416), some (.int x419)], [(.int x433)])) (w1 := w) rfl rfl ?_
                      refine aw_step (f1 := (195, [some (.ref 65), some (.int bo), some (.int f), some (.int t), some (.int x433), some (.int c), some (.int dd), some (.int x411), some (.int x416), some (.int x419)], [])) (w1 := w) rfl rfl ?_
                      refine aw_step (f1 := (198, [some (.ref 65), some (.int bo), some (.int f), some (.int t), some (.int x433), some (.int c), some (.int (dd + Int32.ofInt 1)), some (.int x411), some (.int x416), some (.int x419)], [])) (w1 := w) rfl rfl ?_
                      obtain ⟨x435, x435e⟩ : ∃ z, z = (dd + Int32.ofInt 1) := ⟨_, rfl⟩
                      have x435t : x435.toInt = dd.toInt + (1) := by rw [x435e]; exact n_add (y := Int32.ofInt (1)) (by show _ ≤ _ + (1 : Int); omega) (by show _ + (1 : Int) ≤ _; omega)
                      rw [← x435e]
                      refine aw_step (f1 := (48, [some (.ref 65), some (.int bo), some (.int f), some (.int t), some (.int x433), some (.int c), some (.int x435), some (.int x411), some (.int x416), some (.int x419)], [])) (w1 := w) rfl rfl ?_
                      exact ih w x433 x435 _ _ _ (by omega) (by omega) (by omega) J (by omega) (by omega)
              · --
                refine aw_step (f1 := (146, [some (.ref 65), some (.int bo), some (.int f), some (.int t), some (.int more), some (.int c), some (.int dd), some (.int x411), some (.int x416), o9], [(.ref 65)])) (w1 := w) rfl rfl ?_
                refine aw_step (f1 := (148, [some (.ref 65), some (.int bo), some (.int f), some (.int t), some (.int more), some (.int c), some (.int dd), some (.int x411), some (.int x416), o9], [(.int dd), (.ref 65)])) (w1 := w) rfl rfl ?_
                refine aw_step (f1 := (149, [some (.ref 65), some (.int bo), some (.int f), some (.int t), some (.int more), some (.int c), some (.int dd), some (.int x411), some (.int x416), o9], [(.ref 65), (.int dd), (.ref 65)])) (w1 := w) rfl rfl ?_
                refine s_gr 78 J 152 rfl rfl rfl rfl rfl rfl ?_
                refine aw_step (f1 := (154, [some (.ref 65), some (.int bo), some (.int f), some (.int t), some (.int more), some (.int c), some (.int dd), some (.int x411), some (.int x416), o9], [(.int c), (.ref 78), (.int dd), (.ref 65)])) (w1 := w) rfl rfl ?_
                refine s_ia J 155 rfl rfl rfl rfl (by omega) (by omega) fun x436 x436a x436b x436f => ?_
                refine aw_step (f1 := (156, [some (.ref 65), some (.int bo), some (.int f), some (.int t), some (.int more), some (.int c), some (.int dd), some (.int x411), some (.int x416), o9], [(.ref 65), (.int x436), (.int dd), (.ref 65)])) (w1 := w) rfl rfl ?_
                refine s_gi J 159 rfl rfl rfl rfl rfl rfl fun x437 x437a x437b x437f => ?_
                refine s_i (pc1 := 160) (ls1 := [some (.ref 65), some (.int bo), some (.int f), some (.int t), some (.int more), some (.int c), some (.int dd), some (.int x411), some (.int x416), o9]) (st1 := [(.int dd), (.ref 65)]) rfl rfl fun x438 e439 => ?_
                have e439 : x438 = x436 + x437 := e439
                have e439t : x438.toInt = x436.toInt + x437.toInt := by rw [e439]; exact n_add (by omega) (by omega)
                refine s_cv (z := 147) (p := 65) (as := [(.int dd), (.int x438)]) (st1 := []) J 163 rfl rfl rfl rfl rfl rfl rfl rfl (Nat.le_of_ble_eq_true rfl) (Nat.le_of_ble_eq_true rfl) (q_cheapen dd x438 ⟨by omega, by omega⟩ (by omega) J.1) ?_
                rintro _ w441 ⟨x440, rfl, J442c, w441o, w441p⟩
                have J442 := J.trans J442c
                refine ⟨am_len2 J J442c, ?_⟩
                show aw none _ 151 _ (163, [some (.ref 65), some (.int bo), some (.int f), some (.int t), some (.int more), some (.int c), some (.int dd), some (.int x411), some (.int x416), o9], [(.int x440)]) w441
                have w441s := w441p.s (by omega)
                have w441z := w441o.sz (by decide)
                refine s_if 170 166 rfl rfl rfl (fun (h443 : x440.toInt = 0) => ?_) (fun (h443 : ¬ (x440.toInt = 0)) => ?_)
                · --
                  refine s_i (pc1 := 171) (ls1 := [some (.ref 65), some (.int bo), some (.int f), some (.int t), some (.int more), some (.int c), some (.int dd), some (.int x411), some (.int x416), o9]) (st1 := []) rfl rfl fun x444 e445 => ?_
                  have e445t : x444.toInt = 0 := by rw [e445]; rfl
                  refine aw_step (f1 := (173, [some (.ref 65), some (.int bo), some (.int f), some (.int t), some (.int more), some (.int c), some (.int dd), some (.int x411), some (.int x416), some (.int x444)], [])) (w1 := w441) rfl rfl ?_
                  refine aw_step (f1 := (175, [some (.ref 65), some (.int bo), some (.int f), some (.int t), some (.int more), some (.int c), some (.int dd), some (.int x411), some (.int x416), some (.int x444)], [(.int more)])) (w1 := w441) rfl rfl ?_
                  refine s_if 188 178 rfl rfl rfl (fun (h446 : ¬ more.toInt = 0) => ?_) (fun (h446 : ¬ (¬ more.toInt = 0)) => ?_)
                  · --
                    refine s_i (pc1 := 189) (ls1 := [some (.ref 65), some (.int bo), some (.int f), some (.int t), some (.int more), some (.int c), some (.int dd), some (.int x411), some (.int x416), some (.int x444)]) (st1 := []) rfl rfl fun x447 e448 => ?_
                    have e448t : x447.toInt = 1 := by rw [e448]; rfl
                    refine aw_step (f1 := (193, [some (.ref 65), some (.int bo), some (.int f), some (.int t), some (.int more), some (.int c), some (.int dd), some (.int x411), some (.int x416), some (.int x444)], [(.int x447)])) (w1 := w441) rfl rfl ?_
                    refine aw_step (f1 := (195, [some (.ref 65), some (.int bo), some (.int f), some (.int t), some (.int x447), some (.int c), some (.int dd), some (.int x411), some (.int x416), some (.int x444)], [])) (w1 := w441) rfl rfl ?_
                    refine aw_step (f1 := (198, [some (.ref 65), some (.int bo), some (.int f), some (.int t), some (.int x447), some (.int c), some (.int (dd + Int32.ofInt 1)), some (.int x411), some (.int x416), some (.int x444)], [])) (w1 := w441) rfl rfl ?_
                    obtain ⟨x449, x449e⟩ : ∃ z, z = (dd + Int32.ofInt 1) := ⟨_, rfl⟩
                    have x449t : x449.toInt = dd.toInt + (1) := by rw [x449e]; exact n_add (y := Int32.ofInt (1)) (by show _ ≤ _ + (1 : Int); omega) (by show _ + (1 : Int) ≤ _; omega)
                    rw [← x449e]
                    refine aw_step (f1 := (48, [some (.ref 65), some (.int bo), some (.int f), some (.int t), some (.int x447), some (.int c), some (.int x449), some (.int x411), some (.int x416), some (.int x444)], [])) (w1 := w441) rfl rfl ?_
                    exact ih w441 x447 x449 _ _ _ (by omega) (by omega) (by omega) J442 (by omega) (by omega)
                  · --
                    refine aw_step (f1 := (180, [some (.ref 65), some (.int bo), some (.int f), some (.int t), some (.int more), some (.int c), some (.int dd), some (.int x411), some (.int x416), some (.int x444)], [(.int x416)])) (w1 := w441) rfl rfl ?_
                    refine s_if 188 183 rfl rfl rfl (fun (h450 : ¬ x416.toInt = 0) => ?_) (fun (h450 : ¬ (¬ x416.toInt = 0)) => ?_)
                    · --
                      refine s_i (pc1 := 189) (ls1 := [some (.ref 65), some (.int bo), some (.int f), some (.int t), some (.int more), some (.int c), some (.int dd), some (.int x411), some (.int x416), some (.int x444)]) (st1 := []) rfl rfl fun x451 e452 => ?_
                      have e452t : x451.toInt = 1 := by rw [e452]; rfl
                      refine aw_step (f1 := (193, [some (.ref 65), some (.int bo), some (.int f), some (.int t), some (.int more), some (.int c), some (.int dd), some (.int x411), some (.int x416), some (.int x444)], [(.int x451)])) (w1 := w441) rfl rfl ?_
                      refine aw_step (f1 := (195, [some (.ref 65), some (.int bo), some (.int f), some (.int t), some (.int x451), some (.int c), some (.int dd), some (.int x411), some (.int x416), some (.int x444)], [])) (w1 := w441) rfl rfl ?_
                      refine aw_step (f1 := (198, [some (.ref 65), some (.int bo), some (.int f), some (.int t), some (.int x451), some (.int c), some (.int (dd + Int32.ofInt 1)), some (.int x411), some (.int x416), some (.int x444)], [])) (w1 := w441) rfl rfl ?_
                      obtain ⟨x453, x453e⟩ : ∃ z, z = (dd + Int32.ofInt 1) := ⟨_, rfl⟩
                      have x453t : x453.toInt = dd.toInt + (1) := by rw [x453e]; exact n_add (y := Int32.ofInt (1)) (by show _ ≤ _ + (1 : Int); omega) (by show _ + (1 : Int) ≤ _; omega)
                      rw [← x453e]
                      refine aw_step (f1 := (48, [some (.ref 65), some (.int bo), some (.int f), some (.int t), some (.int x451), some (.int c), some (.int x453), some (.int x411), some (.int x416), some (.int x444)], [])) (w1 := w441) rfl rfl ?_
                      exact ih w441 x451 x453 _ _ _ (by omega) (by omega) (by omega) J442 (by omega) (by omega)
                    · --
                      refine aw_step (f1 := (185, [some (.ref 65), some (.int bo), some (.int f), some (.int t), some (.int more), some (.int c), some (.int dd), some (.int x411), some (.int x416), some (.int x444)], [(.int x444)])) (w1 := w441) rfl rfl ?_
                      refine s_if 192 188 rfl rfl rfl (fun (h454 : x444.toInt = 0) => ?_) (fun (h454 : ¬ (x444.toInt = 0)) => ?_)
                      · --
                        refine s_i (pc1 := 193) (ls1 := [some (.ref 65), some (.int bo), some (.int f), some (.int t), some (.int more), some (.int c), some (.int dd), some (.int x411), some (.int x416), some (.int x444)]) (st1 := []) rfl rfl fun x455 e456 => ?_
                        have e456t : x455.toInt = 0 := by rw [e456]; rfl
                        refine aw_step (f1 := (195, [some (.ref 65), some (.int bo), some (.int f), some (.int t), some (.int x455), some (.int c), some (.int dd), some (.int x411), some (.int x416), some (.int x444)], [])) (w1 := w441) rfl rfl ?_
                        refine aw_step (f1 := (198, [some (.ref 65), some (.int bo), some (.int f), some (.int t), some (.int x455), some (.int c), some (.int (dd + Int32.ofInt 1)), some (.int x411), some (.int x416), some (.int x444)], [])) (w1 := w441) rfl rfl ?_
                        obtain ⟨x457, x457e⟩ : ∃ z, z = (dd + Int32.ofInt 1) := ⟨_, rfl⟩
                        have x457t : x457.toInt = dd.toInt + (1) := by rw [x457e]; exact n_add (y := Int32.ofInt (1)) (by show _ ≤ _ + (1 : Int); omega) (by show _ + (1 : Int) ≤ _; omega)
                        rw [← x457e]
                        refine aw_step (f1 := (48, [some (.ref 65), some (.int bo), some (.int f), some (.int t), some (.int x455), some (.int c), some (.int x457), some (.int x411), some (.int x416), some (.int x444)], [])) (w1 := w441) rfl rfl ?_
                        exact ih w441 x455 x457 _ _ _ (by omega) (by omega) (by omega) J442 (by omega) (by omega)
                      · --
                        refine s_i (pc1 := 189) (ls1 := [some (.ref 65), some (.int bo), some (.int f), some (.int t), some (.int more), some (.int c), some (.int dd), some (.int x411), some (.int x416), some (.int x444)]) (st1 := []) rfl rfl fun x458 e459 => ?_
                        have e459t : x458.toInt = 1 := by rw [e459]; rfl
                        refine aw_step (f1 := (193, [some (.ref 65), some (.int bo), some (.int f), some (.int t), some (.int more), some (.int c), some (.int dd), some (.int x411), some (.int x416), some (.int x444)], [(.int x458)])) (w1 := w441) rfl rfl ?_
                        refine aw_step (f1 := (195, [some (.ref 65), some (.int bo), some (.int f), some (.int t), some (.int x458), some (.int c), some (.int dd), some (.int x411), some (.int x416), some (.int x444)], [])) (w1 := w441) rfl rfl ?_
                        refine aw_step (f1 := (198, [some (.ref 65), some (.int bo), some (.int f), some (.int t), some (.int x458), some (.int c), some (.int (dd + Int32.ofInt 1)), some (.int x411), some (.int x416), some (.int x444)], [])) (w1 := w441) rfl rfl ?_
                        obtain ⟨x460, x460e⟩ : ∃ z, z = (dd + Int32.ofInt 1) := ⟨_, rfl⟩
                        have x460t : x460.toInt = dd.toInt + (1) := by rw [x460e]; exact n_add (y := Int32.ofInt (1)) (by show _ ≤ _ + (1 : Int); omega) (by show _ + (1 : Int) ≤ _; omega)
                        rw [← x460e]
                        refine aw_step (f1 := (48, [some (.ref 65), some (.int bo), some (.int f), some (.int t), some (.int x458), some (.int c), some (.int x460), some (.int x411), some (.int x416), some (.int x444)], [])) (w1 := w441) rfl rfl ?_
                        exact ih w441 x458 x460 _ _ _ (by omega) (by omega) (by omega) J442 (by omega) (by omega)
                · --
                  refine s_i (pc1 := 167) (ls1 := [some (.ref 65), some (.int bo), some (.int f), some (.int t), some (.int more), some (.int c), some (.int dd), some (.int x411), some (.int x416), o9]) (st1 := []) rfl rfl fun x461 e462 => ?_
                  have e462t : x461.toInt = 1 := by rw [e462]; rfl
                  refine aw_step (f1 := (171, [some (.ref 65), some (.int bo), some (.int f), some (.int t), some (.int more), some (.int c), some (.int dd), some (.int x411), some (.int x416), o9], [(.int x461)])) (w1 := w441) rfl rfl ?_
                  refine aw_step (f1 := (173, [some (.ref 65), some (.int bo), some (.int f), some (.int t), some (.int more), some (.int c), some (.int dd), some (.int x411), some (.int x416), some (.int x461)], [])) (w1 := w441) rfl rfl ?_
                  refine aw_step (f1 := (175, [some (.ref 65), some (.int bo), some (.int f), some (.int t), some (.int more), some (.int c), some (.int dd), some (.int x411), some (.int x416), some (.int x461)], [(.int more)])) (w1 := w441) rfl rfl ?_
                  refine s_if 188 178 rfl rfl rfl (fun (h463 : ¬ more.toInt = 0) => ?_) (fun (h463 : ¬ (¬ more.toInt = 0)) => ?_)
                  · --
                    refine s_i (pc1 := 189) (ls1 := [some (.ref 65), some (.int bo), some (.int f), some (.int t), some (.int more), some (.int c), some (.int dd), some (.int x411), some (.int x416), some (.int x461)]) (st1 := []) rfl rfl fun x464 e465 => ?_
                    have e465t : x464.toInt = 1 := by rw [e465]; rfl
                    refine aw_step (f1 := (193, [some (.ref 65), some (.int bo), some (.int f), some (.int t), some (.int more), some (.int c), some (.int dd), some (.int x411), some (.int x416), some (.int x461)], [(.int x464)])) (w1 := w441) rfl rfl ?_
                    refine aw_step (f1 := (195, [some (.ref 65), some (.int bo), some (.int f), some (.int t), some (.int x464), some (.int c), some (.int dd), some (.int x411), some (.int x416), some (.int x461)], [])) (w1 := w441) rfl rfl ?_
                    refine aw_step (f1 := (198, [some (.ref 65), some (.int bo), some (.int f), some (.int t), some (.int x464), some (.int c), some (.int (dd + Int32.ofInt 1)), some (.int x411), some (.int x416), some (.int x461)], [])) (w1 := w441) rfl rfl ?_
                    obtain ⟨x466, x466e⟩ : ∃ z, z = (dd + Int32.ofInt 1) := ⟨_, rfl⟩
                    have x466t : x466.toInt = dd.toInt + (1) := by rw [x466e]; exact n_add (y := Int32.ofInt (1)) (by show _ ≤ _ + (1 : Int); omega) (by show _ + (1 : Int) ≤ _; omega)
                    rw [← x466e]
                    refine aw_step (f1 := (48, [some (.ref 65), some (.int bo), some (.int f), some (.int t), some (.int x464), some (.int c), some (.int x466), some (.int x411), some (.int x416), some (.int x461)], [])) (w1 := w441) rfl rfl ?_
                    exact ih w441 x464 x466 _ _ _ (by omega) (by omega) (by omega) J442 (by omega) (by omega)
                  · --
                    refine aw_step (f1 := (180, [some (.ref 65), some (.int bo), some (.int f), some (.int t), some (.int more), some (.int c), some (.int dd), some (.int x411), some (.int x416), some (.int x461)], [(.int x416)])) (w1 := w441) rfl rfl ?_
                    refine s_if 188 183 rfl rfl rfl (fun (h467 : ¬ x416.toInt = 0) => ?_) (fun (h467 : ¬ (¬ x416.toInt = 0)) => ?_)
                    · --
                      refine s_i (pc1 := 189) (ls1 := [some (.ref 65), some (.int bo), some (.int f), some (.int t), some (.int more), some (.int c), some (.int dd), some (.int x411), some (.int x416), some (.int x461)]) (st1 := []) rfl rfl fun x468 e469 => ?_
                      have e469t : x468.toInt = 1 := by rw [e469]; rfl
                      refine aw_step (f1 := (193, [some (.ref 65), some (.int bo), some (.int f), some (.int t), some (.int more), some (.int c), some (.int dd), some (.int x411), some (.int x416), some (.int x461)], [(.int x468)])) (w1 := w441) rfl rfl ?_
                      refine aw_step (f1 := (195, [some (.ref 65), some (.int bo), some (.int f), some (.int t), some (.int x468), some (.int c), some (.int dd), some (.int x411), some (.int x416), some (.int x461)], [])) (w1 := w441) rfl rfl ?_
                      refine aw_step (f1 := (198, [some (.ref 65), some (.int bo), some (.int f), some (.int t), some (.int x468), some (.int c), some (.int (dd + Int32.ofInt 1)), some (.int x411), some (.int x416), some (.int x461)], [])) (w1 := w441) rfl rfl ?_
                      obtain ⟨x470, x470e⟩ : ∃ z, z = (dd + Int32.ofInt 1) := ⟨_, rfl⟩
                      have x470t : x470.toInt = dd.toInt + (1) := by rw [x470e]; exact n_add (y := Int32.ofInt (1)) (by show _ ≤ _ + (1 : Int); omega) (by show _ + (1 : Int) ≤ _; omega)
                      rw [← x470e]
                      refine aw_step (f1 := (48, [some (.ref 65), some (.int bo), some (.int f), some (.int t), some (.int x468), some (.int c), some (.int x470), some (.int x411), some (.int x416), some (.int x461)], [])) (w1 := w441) rfl rfl ?_
                      exact ih w441 x468 x470 _ _ _ (by omega) (by omega) (by omega) J442 (by omega) (by omega)
                    · --
                      refine aw_step (f1 := (185, [some (.ref 65), some (.int bo), some (.int f), some (.int t), some (.int more), some (.int c), some (.int dd), some (.int x411), some (.int x416), some (.int x461)], [(.int x461)])) (w1 := w441) rfl rfl ?_
                      refine s_if 192 188 rfl rfl rfl (fun (h471 : x461.toInt = 0) => ?_) (fun (h471 : ¬ (x461.toInt = 0)) => ?_)
                      · --
                        refine s_i (pc1 := 193) (ls1 := [some (.ref 65), some (.int bo), some (.int f), some (.int t), some (.int more), some (.int c), some (.int dd), some (.int x411), some (.int x416), some (.int x461)]) (st1 := []) rfl rfl fun x472 e473 => ?_
                        have e473t : x472.toInt = 0 := by rw [e473]; rfl
                        refine aw_step (f1 := (195, [some (.ref 65), some (.int bo), some (.int f), some (.int t), some (.int x472), some (.int c), some (.int dd), some (.int x411), some (.int x416), some (.int x461)], [])) (w1 := w441) rfl rfl ?_
                        refine aw_step (f1 := (198, [some (.ref 65), some (.int bo), some (.int f), some (.int t), some (.int x472), some (.int c), some (.int (dd + Int32.ofInt 1)), some (.int x411), some (.int x416), some (.int x461)], [])) (w1 := w441) rfl rfl ?_
                        obtain ⟨x474, x474e⟩ : ∃ z, z = (dd + Int32.ofInt 1) := ⟨_, rfl⟩
                        have x474t : x474.toInt = dd.toInt + (1) := by rw [x474e]; exact n_add (y := Int32.ofInt (1)) (by show _ ≤ _ + (1 : Int); omega) (by show _ + (1 : Int) ≤ _; omega)
                        rw [← x474e]
                        refine aw_step (f1 := (48, [some (.ref 65), some (.int bo), some (.int f), some (.int t), some (.int x472), some (.int c), some (.int x474), some (.int x411), some (.int x416), some (.int x461)], [])) (w1 := w441) rfl rfl ?_
                        exact ih w441 x472 x474 _ _ _ (by omega) (by omega) (by omega) J442 (by omega) (by omega)
                      · --
                        refine s_i (pc1 := 189) (ls1 := [some (.ref 65), some (.int bo), some (.int f), some (.int t), some (.int more), some (.int c), some (.int dd), some (.int x411), some (.int x416), some (.int x461)]) (st1 := []) rfl rfl fun x475 e476 => ?_
                        have e476t : x475.toInt = 1 := by rw [e476]; rfl
                        refine aw_step (f1 := (193, [some (.ref 65), some (.int bo), some (.int f), some (.int t), some (.int more), some (.int c), some (.int dd), some (.int x411), some (.int x416), some (.int x461)], [(.int x475)])) (w1 := w441) rfl rfl ?_
                        refine aw_step (f1 := (195, [some (.ref 65), some (.int bo), some (.int f), some (.int t), some (.int x475), some (.int c), some (.int dd), some (.int x411), some (.int x416), some (.int x461)], [])) (w1 := w441) rfl rfl ?_
                        refine aw_step (f1 := (198, [some (.ref 65), some (.int bo), some (.int f), some (.int t), some (.int x475), some (.int c), some (.int (dd + Int32.ofInt 1)), some (.int x411), some (.int x416), some (.int x461)], [])) (w1 := w441) rfl rfl ?_
                        obtain ⟨x477, x477e⟩ : ∃ z, z = (dd + Int32.ofInt 1) := ⟨_, rfl⟩
                        have x477t : x477.toInt = dd.toInt + (1) := by rw [x477e]; exact n_add (y := Int32.ofInt (1)) (by show _ ≤ _ + (1 : Int); omega) (by show _ + (1 : Int) ≤ _; omega)
                        rw [← x477e]
                        refine aw_step (f1 := (48, [some (.ref 65), some (.int bo), some (.int f), some (.int t), some (.int x475), some (.int c), some (.int x477), some (.int x411), some (.int x416), some (.int x461)], [])) (w1 := w441) rfl rfl ?_
                        exact ih w441 x475 x477 _ _ _ (by omega) (by omega) (by omega) J442 (by omega) (by omega)
            · --
              refine aw_step (f1 := (113, [some (.ref 65), some (.int bo), some (.int f), some (.int t), some (.int more), some (.int c), some (.int dd), some (.int x411), o8, o9], [(.ref 65)])) (w1 := w) rfl rfl ?_
              refine aw_step (f1 := (115, [some (.ref 65), some (.int bo), some (.int f), some (.int t), some (.int more), some (.int c), some (.int dd), some (.int x411), o8, o9], [(.int dd), (.ref 65)])) (w1 := w) rfl rfl ?_
              refine aw_step (f1 := (116, [some (.ref 65), some (.int bo), some (.int f), some (.int t), some (.int more), some (.int c), some (.int dd), some (.int x411), o8, o9], [(.ref 65), (.int dd), (.ref 65)])) (w1 := w) rfl rfl ?_
              refine s_gr 78 J 119 rfl rfl rfl rfl rfl rfl ?_
              refine aw_step (f1 := (121, [some (.ref 65), some (.int bo), some (.int f), some (.int t), some (.int more), some (.int c), some (.int dd), some (.int x411), o8, o9], [(.int c), (.ref 78), (.int dd), (.ref 65)])) (w1 := w) rfl rfl ?_
              refine s_ia J 122 rfl rfl rfl rfl (by omega) (by omega) fun x478 x478a x478b x478f => ?_
              refine aw_step (f1 := (123, [some (.ref 65), some (.int bo), some (.int f), some (.int t), some (.int more), some (.int c), some (.int dd), some (.int x411), o8, o9], [(.ref 65), (.int x478), (.int dd), (.ref 65)])) (w1 := w) rfl rfl ?_
              refine s_gi J 126 rfl rfl rfl rfl rfl rfl fun x479 x479a x479b x479f => ?_
              refine s_i (pc1 := 127) (ls1 := [some (.ref 65), some (.int bo), some (.int f), some (.int t), some (.int more), some (.int c), some (.int dd), some (.int x411), o8, o9]) (st1 := [(.int dd), (.ref 65)]) rfl rfl fun x480 e481 => ?_
              have e481 : x480 = x478 + x479 := e481
              have e481t : x480.toInt = x478.toInt + x479.toInt := by rw [e481]; exact n_add (by omega) (by omega)
              refine s_cv (z := 147) (p := 65) (as := [(.int dd), (.int x480)]) (st1 := []) J 130 rfl rfl rfl rfl rfl rfl rfl rfl (Nat.le_of_ble_eq_true rfl) (Nat.le_of_ble_eq_true rfl) (q_cheapen dd x480 ⟨by omega, by omega⟩ (by omega) J.1) ?_
              rintro _ w483 ⟨x482, rfl, J484c, w483o, w483p⟩
              have J484 := J.trans J484c
              refine ⟨am_len2 J J484c, ?_⟩
              show aw none _ 151 _ (130, [some (.ref 65), some (.int bo), some (.int f), some (.int t), some (.int more), some (.int c), some (.int dd), some (.int x411), o8, o9], [(.int x482)]) w483
              have w483s := w483p.s (by omega)
              have w483z := w483o.sz (by decide)
              refine s_if 137 133 rfl rfl rfl (fun (h485 : x482.toInt = 0) => ?_) (fun (h485 : ¬ (x482.toInt = 0)) => ?_)
              · --
                refine s_i (pc1 := 138) (ls1 := [some (.ref 65), some (.int bo), some (.int f), some (.int t), some (.int more), some (.int c), some (.int dd), some (.int x411), o8, o9]) (st1 := []) rfl rfl fun x486 e487 => ?_
                have e487t : x486.toInt = 0 := by rw [e487]; rfl
                refine aw_step (f1 := (140, [some (.ref 65), some (.int bo), some (.int f), some (.int t), some (.int more), some (.int c), some (.int dd), some (.int x411), some (.int x486), o9], [])) (w1 := w483) rfl rfl ?_
                refine aw_step (f1 := (142, [some (.ref 65), some (.int bo), some (.int f), some (.int t), some (.int more), some (.int c), some (.int dd), some (.int x411), some (.int x486), o9], [(.int x411)])) (w1 := w483) rfl rfl ?_
                refine s_if 170 145 rfl rfl rfl (fun (h488 : x411.toInt = 0) => ?_) (fun (h488 : ¬ (x411.toInt = 0)) => ?_)
                · --
                  refine s_i (pc1 := 171) (ls1 := [some (.ref 65), some (.int bo), some (.int f), some (.int t), some (.int more), some (.int c), some (.int dd), some (.int x411), some (.int x486), o9]) (st1 := []) rfl rfl fun x489 e490 => ?_
                  have e490t : x489.toInt = 0 := by rw [e490]; rfl
                  refine aw_step (f1 := (173, [some (.ref 65), some (.int bo), some (.int f), some (.int t), some (.int more), some (.int c), some (.int dd), some (.int x411), some (.int x486), some (.int x489)], [])) (w1 := w483) rfl rfl ?_
                  refine aw_step (f1 := (175, [some (.ref 65), some (.int bo), some (.int f), some (.int t), some (.int more), some (.int c), some (.int dd), some (.int x411), some (.int x486), some (.int x489)], [(.int more)])) (w1 := w483) rfl rfl ?_
                  refine s_if 188 178 rfl rfl rfl (fun (h491 : ¬ more.toInt = 0) => ?_) (fun (h491 : ¬ (¬ more.toInt = 0)) => ?_)
                  · --
                    refine s_i (pc1 := 189) (ls1 := [some (.ref 65), some (.int bo), some (.int f), some (.int t), some (.int more), some (.int c), some (.int dd), some (.int x411), some (.int x486), some (.int x489)]) (st1 := []) rfl rfl fun x492 e493 => ?_
                    have e493t : x492.toInt = 1 := by rw [e493]; rfl
                    refine aw_step (f1 := (193, [some (.ref 65), some (.int bo), some (.int f), some (.int t), some (.int more), some (.int c), some (.int dd), some (.int x411), some (.int x486), some (.int x489)], [(.int x492)])) (w1 := w483) rfl rfl ?_
                    refine aw_step (f1 := (195, [some (.ref 65), some (.int bo), some (.int f), some (.int t), some (.int x492), some (.int c), some (.int dd), some (.int x411), some (.int x486), some (.int x489)], [])) (w1 := w483) rfl rfl ?_
                    refine aw_step (f1 := (198, [some (.ref 65), some (.int bo), some (.int f), some (.int t), some (.int x492), some (.int c), some (.int (dd + Int32.ofInt 1)), some (.int x411), some (.int x486), some (.int x489)], [])) (w1 := w483) rfl rfl ?_
                    obtain ⟨x494, x494e⟩ : ∃ z, z = (dd + Int32.ofInt 1) := ⟨_, rfl⟩
                    have x494t : x494.toInt = dd.toInt + (1) := by rw [x494e]; exact n_add (y := Int32.ofInt (1)) (by show _ ≤ _ + (1 : Int); omega) (by show _ + (1 : Int) ≤ _; omega)
                    rw [← x494e]
                    refine aw_step (f1 := (48, [some (.ref 65), some (.int bo), some (.int f), some (.int t), some (.int x492), some (.int c), some (.int x494), some (.int x411), some (.int x486), some (.int x489)], [])) (w1 := w483) rfl rfl ?_
                    exact ih w483 x492 x494 _ _ _ (by omega) (by omega) (by omega) J484 (by omega) (by omega)
                  · --
                    refine aw_step (f1 := (180, [some (.ref 65), some (.int bo), some (.int f), some (.int t), some (.int more), some (.int c), some (.int dd), some (.int x411), some (.int x486), some (.int x489)], [(.int x486)])) (w1 := w483) rfl rfl ?_
                    refine s_if 188 183 rfl rfl rfl (fun (h495 : ¬ x486.toInt = 0) => ?_) (fun (h495 : ¬ (¬ x486.toInt = 0)) => ?_)
                    · --
                      refine s_i (pc1 := 189) (ls1 := [some (.ref 65), some (.int bo), some (.int f), some (.int t), some (.int more), some (.int c), some (.int dd), some (.int x411), some (.int x486), some (.int x489)]) (st1 := []) rfl rfl fun x496 e497 => ?_
                      have e497t : x496.toInt = 1 := by rw [e497]; rfl
                      refine aw_step (f1 := (193, [some (.ref 65), some (.int bo), some (.int f), some (.int t), some (.int more), some (.int c), some (.int dd), some (.int x411), some (.int x486), some (.int x489)], [(.int x496)])) (w1 := w483) rfl rfl ?_
                      refine aw_step (f1 := (195, [some (.ref 65), some (.int bo), some (.int f), some (.int t), some (.int x496), some (.int c), some (.int dd), some (.int x411), some (.int x486), some (.int x489)], [])) (w1 := w483) rfl rfl ?_
                      refine aw_step (f1 := (198, [some (.ref 65), some (.int bo), some (.int f), some (.int t), some (.int x496), some (.int c), some (.int (dd + Int32.ofInt 1)), some (.int x411), some (.int x486), some (.int x489)], [])) (w1 := w483) rfl rfl ?_
                      obtain ⟨x498, x498e⟩ : ∃ z, z = (dd + Int32.ofInt 1) := ⟨_, rfl⟩
                      have x498t : x498.toInt = dd.toInt + (1) := by rw [x498e]; exact n_add (y := Int32.ofInt (1)) (by show _ ≤ _ + (1 : Int); omega) (by show _ + (1 : Int) ≤ _; omega)
                      rw [← x498e]
                      refine aw_step (f1 := (48, [some (.ref 65), some (.int bo), some (.int f), some (.int t), some (.int x496), some (.int c), some (.int x498), some (.int x411), some (.int x486), some (.int x489)], [])) (w1 := w483) rfl rfl ?_
                      exact ih w483 x496 x498 _ _ _ (by omega) (by omega) (by omega) J484 (by omega) (by omega)
                    · --
                      refine aw_step (f1 := (185, [some (.ref 65), some (.int bo), some (.int f), some (.int t), some (.int more), some (.int c), some (.int dd), some (.int x411), some (.int x486), some (.int x489)], [(.int x489)])) (w1 := w483) rfl rfl ?_
                      refine s_if 192 188 rfl rfl rfl (fun (h499 : x489.toInt = 0) => ?_) (fun (h499 : ¬ (x489.toInt = 0)) => ?_)
                      · --
                        refine s_i (pc1 := 193) (ls1 := [some (.ref 65), some (.int bo), some (.int f), some (.int t), some (.int more), some (.int c), some (.int dd), some (.int x411), some (.int x486), some (.int x489)]) (st1 := []) rfl rfl fun x500 e501 => ?_
                        have e501t : x500.toInt = 0 := by rw [e501]; rfl
                        refine aw_step (f1 := (195, [some (.ref 65), some (.int bo), some (.int f), some (.int t), some (.int x500), some (.int c), some (.int dd), some (.int x411), some (.int x486), some (.int x489)], [])) (w1 := w483) rfl rfl ?_
                        refine aw_step (f1 := (198, [some (.ref 65), some (.int bo), some (.int f), some (.int t), some (.int x500), some (.int c), some (.int (dd + Int32.ofInt 1)), some (.int x411), some (.int x486), some (.int x489)], [])) (w1 := w483) rfl rfl ?_
                        obtain ⟨x502, x502e⟩ : ∃ z, z = (dd + Int32.ofInt 1) := ⟨_, rfl⟩
                        have x502t : x502.toInt = dd.toInt + (1) := by rw [x502e]; exact n_add (y := Int32.ofInt (1)) (by show _ ≤ _ + (1 : Int); omega) (by show _ + (1 : Int) ≤ _; omega)
                        rw [← x502e]
                        refine aw_step (f1 := (48, [some (.ref 65), some (.int bo), some (.int f), some (.int t), some (.int x500), some (.int c), some (.int x502), some (.int x411), some (.int x486), some (.int x489)], [])) (w1 := w483) rfl rfl ?_
                        exact ih w483 x500 x502 _ _ _ (by omega) (by omega) (by omega) J484 (by omega) (by omega)
                      · --
                        refine s_i (pc1 := 189) (ls1 := [some (.ref 65), some (.int bo), some (.int f), some (.int t), some (.int more), some (.int c), some (.int dd), some (.int x411), some (.int x486), some (.int x489)]) (st1 := []) rfl rfl fun x503 e504 => ?_
                        have e504t : x503.toInt = 1 := by rw [e504]; rfl
                        refine aw_step (f1 := (193, [some (.ref 65), some (.int bo), some (.int f), some (.int t), some (.int more), some (.int c), some (.int dd), some (.int x411), some (.int x486), some (.int x489)], [(.int x503)])) (w1 := w483) rfl rfl ?_
                        refine aw_step (f1 := (195, [some (.ref 65), some (.int bo), some (.int f), some (.int t), some (.int x503), some (.int c), some (.int dd), some (.int x411), some (.int x486), some (.int x489)], [])) (w1 := w483) rfl rfl ?_
                        refine aw_step (f1 := (198, [some (.ref 65), some (.int bo), some (.int f), some (.int t), some (.int x503), some (.int c), some (.int (dd + Int32.ofInt 1)), some (.int x411), some (.int x486), some (.int x489)], [])) (w1 := w483) rfl rfl ?_
                        obtain ⟨x505, x505e⟩ : ∃ z, z = (dd + Int32.ofInt 1) := ⟨_, rfl⟩
                        have x505t : x505.toInt = dd.toInt + (1) := by rw [x505e]; exact n_add (y := Int32.ofInt (1)) (by show _ ≤ _ + (1 : Int); omega) (by show _ + (1 : Int) ≤ _; omega)
                        rw [← x505e]
                        refine aw_step (f1 := (48, [some (.ref 65), some (.int bo), some (.int f), some (.int t), some (.int x503), some (.int c), some (.int x505), some (.int x411), some (.int x486), some (.int x489)], [])) (w1 := w483) rfl rfl ?_
                        exact ih w483 x503 x505 _ _ _ (by omega) (by omega) (by omega) J484 (by omega) (by omega)
                · --
                  refine aw_step (f1 := (146, [some (.ref 65), some (.int bo), some (.int f), some (.int t), some (.int more), some (.int c), some (.int dd), some (.int x411), some (.int x486), o9], [(.ref 65)])) (w1 := w483) rfl rfl ?_
                  refine aw_step (f1 := (148, [some (.ref 65), some (.int bo), some (.int f), some (.int t), some (.int more), some (.int c), some (.int dd), some (.int x411), some (.int x486), o9], [(.int dd), (.ref 65)])) (w1 := w483) rfl rfl ?_
                  refine aw_step (f1 := (149, [some (.ref 65), some (.int bo), some (.int f), some (.int t), some (.int more), some (.int c), some (.int dd), some (.int x411), some (.int x486), o9], [(.ref 65), (.int dd), (.ref 65)])) (w1 := w483) rfl rfl ?_
                  refine s_gr 78 J484 152 rfl rfl rfl rfl rfl rfl ?_
                  refine aw_step (f1 := (154, [some (.ref 65), some (.int bo), some (.int f), some (.int t), some (.int more), some (.int c), some (.int dd), some (.int x411), some (.int x486), o9], [(.int c), (.ref 78), (.int dd), (.ref 65)])) (w1 := w483) rfl rfl ?_
                  refine s_ia J484 155 rfl rfl rfl rfl (by omega) (by omega) fun x506 x506a x506b x506f => ?_
                  refine aw_step (f1 := (156, [some (.ref 65), some (.int bo), some (.int f), some (.int t), some (.int more), some (.int c), some (.int dd), some (.int x411), some (.int x486), o9], [(.ref 65), (.int x506), (.int dd), (.ref 65)])) (w1 := w483) rfl rfl ?_
                  refine s_gi J484 159 rfl rfl rfl rfl rfl rfl fun x507 x507a x507b x507f => ?_
                  refine s_i (pc1 := 160) (ls1 := [some (.ref 65), some (.int bo), some (.int f), some (.int t), some (.int more), some (.int c), some (.int dd), some (.int x411), some (.int x486), o9]) (st1 := [(.int dd), (.ref 65)]) rfl rfl fun x508 e509 => ?_
                  have e509 : x508 = x506 + x507 := e509
                  have e509t : x508.toInt = x506.toInt + x507.toInt := by rw [e509]; exact n_add (by omega) (by omega)
                  refine s_cv (z := 147) (p := 65) (as := [(.int dd), (.int x508)]) (st1 := []) J484 163 rfl rfl rfl rfl rfl rfl rfl rfl (Nat.le_of_ble_eq_true rfl) (Nat.le_of_ble_eq_true rfl) (q_cheapen dd x508 ⟨by omega, by omega⟩ (by omega) J484.1) ?_
                  rintro _ w511 ⟨x510, rfl, J512c, w511o, w511p⟩
                  have J512 := J484.trans J512c
                  refine ⟨am_len2 J484 J512c, ?_⟩
                  show aw none _ 151 _ (163, [some (.ref 65), some (.int bo), some (.int f), some (.int t), some (.int more), some (.int c), some (.int dd), some (.int x411), some (.int x486), o9], [(.int x510)]) w511
                  have w511s := w511p.s (by omega)
                  have w511z := w511o.sz (by decide)
                  refine s_if 170 166 rfl rfl rfl (fun (h513 : x510.toInt = 0) => ?_) (fun (h513 : ¬ (x510.toInt = 0)) => ?_)
                  · --
                    refine s_i (pc1 := 171) (ls1 := [some (.ref 65), some (.int bo), some (.int f), some (.int t), some (.int more), some (.int c), some (.int dd), some (.int x411), some (.int x486), o9]) (st1 := []) rfl rfl fun x514 e515 => ?_
                    have e515t : x514.toInt = 0 := by rw [e515]; rfl
                    refine aw_step (f1 := (173, [some (.ref 65), some (.int bo), some (.int f), some (.int t), some (.int more), some (.int c), some (.int dd), some (.int x411), some (.int x486), some (.int x514)], [])) (w1 := w511) rfl rfl ?_
                    refine aw_step (f1 := (175, [some (.ref 65), some (.int bo), some (.int f), some (.int t), some (.int more), some (.int c), some (.int dd), some (.int x411), some (.int x486), some (.int x514)], [(.int more)])) (w1 := w511) rfl rfl ?_
                    refine s_if 188 178 rfl rfl rfl (fun (h516 : ¬ more.toInt = 0) => ?_) (fun (h516 : ¬ (¬ more.toInt = 0)) => ?_)
                    · --
                      refine s_i (pc1 := 189) (ls1 := [some (.ref 65), some (.int bo), some (.int f), some (.int t), some (.int more), some (.int c), some (.int dd), some (.int x411), some (.int x486), some (.int x514)]) (st1 := []) rfl rfl fun x517 e518 => ?_
                      have e518t : x517.toInt = 1 := by rw [e518]; rfl
                      refine aw_step (f1 := (193, [some (.ref 65), some (.int bo), some (.int f), some (.int t), some (.int more), some (.int c), some (.int dd), some (.int x411), some (.int x486), some (.int x514)], [(.int x517)])) (w1 := w511) rfl rfl ?_
                      refine aw_step (f1 := (195, [some (.ref 65), some (.int bo), some (.int f), some (.int t), some (.int x517), some (.int c), some (.int dd), some (.int x411), some (.int x486), some (.int x514)], [])) (w1 := w511) rfl rfl ?_
                      refine aw_step (f1 := (198, [some (.ref 65), some (.int bo), some (.int f), some (.int t), some (.int x517), some (.int c), some (.int (dd + Int32.ofInt 1)), some (.int x411), some (.int x486), some (.int x514)], [])) (w1 := w511) rfl rfl ?_
                      obtain ⟨x519, x519e⟩ : ∃ z, z = (dd + Int32.ofInt 1) := ⟨_, rfl⟩
                      have x519t : x519.toInt = dd.toInt + (1) := by rw [x519e]; exact n_add (y := Int32.ofInt (1)) (by show _ ≤ _ + (1 : Int); omega) (by show _ + (1 : Int) ≤ _; omega)
                      rw [← x519e]
                      refine aw_step (f1 := (48, [some (.ref 65), some (.int bo), some (.int f), some (.int t), some (.int x517), some (.int c), some (.int x519), some (.int x411), some (.int x486), some (.int x514)], [])) (w1 := w511) rfl rfl ?_
                      exact ih w511 x517 x519 _ _ _ (by omega) (by omega) (by omega) J512 (by omega) (by omega)
                    · --
                      refine aw_step (f1 := (180, [some (.ref 65), some (.int bo), some (.int f), some (.int t), some (.int more), some (.int c), some (.int dd), some (.int x411), some (.int x486), some (.int x514)], [(.int x486)])) (w1 := w511) rfl rfl ?_
                      refine s_if 188 183 rfl rfl rfl (fun (h520 : ¬ x486.toInt = 0) => ?_) (fun (h520 : ¬ (¬ x486.toInt = 0)) => ?_)
                      · --
                        refine s_i (pc1 := 189) (ls1 := [some (.ref 65), some (.int bo), some (.int f), some (.int t), some (.int more), some (.int c), some (.int dd), some (.int x411), some (.int x486), some (.int x514)]) (st1 := []) rfl rfl fun x521 e522 => ?_
                        have e522t : x521.toInt = 1 := by rw [e522]; rfl
                        refine aw_step (f1 := (193, [some (.ref 65), some (.int bo), some (.int f), some (.int t), some (.int more), some (.int c), some (.int dd), some (.int x411), some (.int x486), some (.int x514)], [(.int x521)])) (w1 := w511) rfl rfl ?_
                        refine aw_step (f1 := (195, [some (.ref 65), some (.int bo), some (.int f), some (.int t), some (.int x521), some (.int c), some (.int dd), some (.int x411), some (.int x486), some (.int x514)], [])) (w1 := w511) rfl rfl ?_
                        refine aw_step (f1 := (198, [some (.ref 65), some (.int bo), some (.int f), some (.int t), some (.int x521), some (.int c), some (.int (dd + Int32.ofInt 1)), some (.int x411), some (.int x486), some (.int x514)], [])) (w1 := w511) rfl rfl ?_
                        obtain ⟨x523, x523e⟩ : ∃ z, z = (dd + Int32.ofInt 1) := ⟨_, rfl⟩
                        have x523t : x523.toInt = dd.toInt + (1) := by rw [x523e]; exact n_add (y := Int32.ofInt (1)) (by show _ ≤ _ + (1 : Int); omega) (by show _ + (1 : Int) ≤ _; omega)
                        rw [← x523e]
                        refine aw_step (f1 := (48, [some (.ref 65), some (.int bo), some (.int f), some (.int t), some (.int x521), some (.int c), some (.int x523), some (.int x411), some (.int x486), some (.int x514)], [])) (w1 := w511) rfl rfl ?_
                        exact ih w511 x521 x523 _ _ _ (by omega) (by omega) (by omega) J512 (by omega) (by omega)
                      · --
                        refine aw_step (f1 := (185, [some (.ref 65), some (.int bo), some (.int f), some (.int t), some (.int more), some (.int c), some (.int dd), some (.int x411), some (.int x486), some (.int x514)], [(.int x514)])) (w1 := w511) rfl rfl ?_
                        refine s_if 192 188 rfl rfl rfl (fun (h524 : x514.toInt = 0) => ?_) (fun (h524 : ¬ (x514.toInt = 0)) => ?_)
                        · --
                          refine s_i (pc1 := 193) (ls1 := [some (.ref 65), some (.int bo), some (.int f), some (.int t), some (.int more), some (.int c), some (.int dd), some (.int x411), some (.int x486), some (.int x514)]) (st1 := []) rfl rfl fun x525 e526 => ?_
                          have e526t : x525.toInt = 0 := by rw [e526]; rfl
                          refine aw_step (f1 := (195, [some (.ref 65), some (.int bo), some (.int f), some (.int t), some (.int x525), some (.int c), some (.int dd), some (.int x411), some (.int x486), some (.int x514)], [])) (w1 := w511) rfl rfl ?_
                          refine aw_step (f1 := (198, [some (.ref 65), some (.int bo), some (.int f), some (.int t), some (.int x525), some (.int c), some (.int (dd + Int32.ofInt 1)), some (.int x411), some (.int x486), some (.int x514)], [])) (w1 := w511) rfl rfl ?_
                          obtain ⟨x527, x527e⟩ : ∃ z, z = (dd + Int32.ofInt 1) := ⟨_, rfl⟩
                          have x527t : x527.toInt = dd.toInt + (1) := by rw [x527e]; exact n_add (y := Int32.ofInt (1)) (by show _ ≤ _ + (1 : Int); omega) (by show _ + (1 : Int) ≤ _; omega)
                          rw [← x527e]
                          refine aw_step (f1 := (48, [some (.ref 65), some (.int bo), some (.int f), some (.int t), some (.int x525), some (.int c), some (.int x527), some (.int x411), some (.int x486), some (.int x514)], [])) (w1 := w511) rfl rfl ?_
                          exact ih w511 x525 x527 _ _ _ (by omega) (by omega) (by omega) J512 (by omega) (by omega)
                        · --
                          refine s_i (pc1 := 189) (ls1 := [some (.ref 65), some (.int bo), some (.int f), some (.int t), some (.int more), some (.int c), some (.int dd), some (.int x411), some (.int x486), some (.int x514)]) (st1 := []) rfl rfl fun x528 e529 => ?_
                          have e529t : x528.toInt = 1 := by rw [e529]; rfl
                          refine aw_step (f1 := (193, [some (.ref 65), some (.int bo), some (.int f), some (.int t), some (.int more), some (.int c), some (.int dd), some (.int x411), some (.int x486), some (.int x514)], [(.int x528)])) (w1 := w511) rfl rfl ?_
                          refine aw_step (f1 := (195, [some (.ref 65), some (.int bo), some (.int f), some (.int t), some (.int x528), some (.int c), some (.int dd), some (.int x411), some (.int x486), some (.int x514)], [])) (w1 := w511) rfl rfl ?_
                          refine aw_step (f1 := (198, [some (.ref 65), some (.int bo), some (.int f), some (.int t), some (.int x528), some (.int c), some (.int (dd + Int32.ofInt 1)), some (.int x411), some (.int x486), some (.int x514)], [])) (w1 := w511) rfl rfl ?_
                          obtain ⟨x530, x530e⟩ : ∃ z, z = (dd + Int32.ofInt 1) := ⟨_, rfl⟩
                          have x530t : x530.toInt = dd.toInt + (1) := by rw [x530e]; exact n_add (y := Int32.ofInt (1)) (by show _ ≤ _ + (1 : Int); omega) (by show _ + (1 : Int) ≤ _; omega)
                          rw [← x530e]
                          refine aw_step (f1 := (48, [some (.ref 65), some (.int bo), some (.int f), some (.int t), some (.int x528), some (.int c), some (.int x530), some (.int x411), some (.int x486), some (.int x514)], [])) (w1 := w511) rfl rfl ?_
                          exact ih w511 x528 x530 _ _ _ (by omega) (by omega) (by omega) J512 (by omega) (by omega)
                  · --
                    refine s_i (pc1 := 167) (ls1 := [some (.ref 65), some (.int bo), some (.int f), some (.int t), some (.int more), some (.int c), some (.int dd), some (.int x411), some (.int x486), o9]) (st1 := []) rfl rfl fun x531 e532 => ?_
                    have e532t : x531.toInt = 1 := by rw [e532]; rfl
                    refine aw_step (f1 := (171, [some (.ref 65), some (.int bo), some (.int f), some (.int t), some (.int more), some (.int c), some (.int dd), some (.int x411), some (.int x486), o9], [(.int x531)])) (w1 := w511) rfl rfl ?_
                    refine aw_step (f1 := (173, [some (.ref 65), some (.int bo), some (.int f), some (.int t), some (.int more), some (.int c), some (.int dd), some (.int x411), some (.int x486), some (.int x531)], [])) (w1 := w511) rfl rfl ?_
                    refine aw_step (f1 := (175, [some (.ref 65), some (.int bo), some (.int f), some (.int t), some (.int more), some (.int c), some (.int dd), some (.int x411), some (.int x486), some (.int x531)], [(.int more)])) (w1 := w511) rfl rfl ?_
                    refine s_if 188 178 rfl rfl rfl (fun (h533 : ¬ more.toInt = 0) => ?_) (fun (h533 : ¬ (¬ more.toInt = 0)) => ?_)
                    · --
                      refine s_i (pc1 := 189) (ls1 := [some (.ref 65), some (.int bo), some (.int f), some (.int t), some (.int more), some (.int c), some (.int dd), some (.int x411), some (.int x486), some (.int x531)]) (st1 := []) rfl rfl fun x534 e535 => ?_
                      have e535t : x534.toInt = 1 := by rw [e535]; rfl
                      refine aw_step (f1 := (193, [some (.ref 65), some (.int bo), some (.int f), some (.int t), some (.int more), some (.int c), some (.int dd), some (.int x411), some (.int x486), some (.int x531)], [(.int x534)])) (w1 := w511) rfl rfl ?_
                      refine aw_step (f1 := (195, [some (.ref 65), some (.int bo), some (.int f), some (.int t), some (.int x534), some (.int c), some (.int dd), some (.int x411), some (.int x486), some (.int x531)], [])) (w1 := w511) rfl rfl ?_
                      refine aw_step (f1 := (198, [some (.ref 65), some (.int bo), some (.int f), some (.int t), some (.int x534), some (.int c), some (.int (dd + Int32.ofInt 1)), some (.int x411), some (.int x486), some (.int x531)], [])) (w1 := w511) rfl rfl ?_
                      obtain ⟨x536, x536e⟩ : ∃ z, z = (dd + Int32.ofInt 1) := ⟨_, rfl⟩
                      have x536t : x536.toInt = dd.toInt + (1) := by rw [x536e]; exact n_add (y := Int32.ofInt (1)) (by show _ ≤ _ + (1 : Int); omega) (by show _ + (1 : Int) ≤ _; omega)
                      rw [← x536e]
                      refine aw_step (f1 := (48, [some (.ref 65), some (.int bo), some (.int f), some (.int t), some (.int x534), some (.int c), some (.int x536), some (.int x411), some (.int x486), some (.int x531)], [])) (w1 := w511) rfl rfl ?_
                      exact ih w511 x534 x536 _ _ _ (by omega) (by omega) (by omega) J512 (by omega) (by omega)
                    · --
                      refine aw_step (f1 := (180, [some (.ref 65), some (.int bo), some (.int f), some (.int t), some (.int more), some (.int c), some (.int dd), some (.int x411), some (.int x486), some (.int x531)], [(.int x486)])) (w1 := w511) rfl rfl ?_
                      refine s_if 188 183 rfl rfl rfl (fun (h537 : ¬ x486.toInt = 0) => ?_) (fun (h537 : ¬ (¬ x486.toInt = 0)) => ?_)
                      · --
                        refine s_i (pc1 := 189) (ls1 := [some (.ref 65), some (.int bo), some (.int f), some (.int t), some (.int more), some (.int c), some (.int dd), some (.int x411), some (.int x486), some (.int x531)]) (st1 := []) rfl rfl fun x538 e539 => ?_
                        have e539t : x538.toInt = 1 := by rw [e539]; rfl
                        refine aw_step (f1 := (193, [some (.ref 65), some (.int bo), some (.int f), some (.int t), some (.int more), some (.int c), some (.int dd), some (.int x411), some (.int x486), some (.int x531)], [(.int x538)])) (w1 := w511) rfl rfl ?_
                        refine aw_step (f1 := (195, [some (.ref 65), some (.int bo), some (.int f), some (.int t), some (.int x538), some (.int c), some (.int dd), some (.int x411), some (.int x486), some (.int x531)], [])) (w1 := w511) rfl rfl ?_
                        refine aw_step (f1 := (198, [some (.ref 65), some (.int bo), some (.int f), some (.int t), some (.int x538), some (.int c), some (.int (dd + Int32.ofInt 1)), some (.int x411), some (.int x486), some (.int x531)], [])) (w1 := w511) rfl rfl ?_
                        obtain ⟨x540, x540e⟩ : ∃ z, z = (dd + Int32.ofInt 1) := ⟨_, rfl⟩
                        have x540t : x540.toInt = dd.toInt + (1) := by rw [x540e]; exact n_add (y := Int32.ofInt (1)) (by show _ ≤ _ + (1 : Int); omega) (by show _ + (1 : Int) ≤ _; omega)
                        rw [← x540e]
                        refine aw_step (f1 := (48, [some (.ref 65), some (.int bo), some (.int f), some (.int t), some (.int x538), some (.int c), some (.int x540), some (.int x411), some (.int x486), some (.int x531)], [])) (w1 := w511) rfl rfl ?_
                        exact ih w511 x538 x540 _ _ _ (by omega) (by omega) (by omega) J512 (by omega) (by omega)
                      · --
                        refine aw_step (f1 := (185, [some (.ref 65), some (.int bo), some (.int f), some (.int t), some (.int more), some (.int c), some (.int dd), some (.int x411), some (.int x486), some (.int x531)], [(.int x531)])) (w1 := w511) rfl rfl ?_
                        refine s_if 192 188 rfl rfl rfl (fun (h541 : x531.toInt = 0) => ?_) (fun (h541 : ¬ (x531.toInt = 0)) => ?_)
                        · --
                          refine s_i (pc1 := 193) (ls1 := [some (.ref 65), some (.int bo), some (.int f), some (.int t), some (.int more), some (.int c), some (.int dd), some (.int x411), some (.int x486), some (.int x531)]) (st1 := []) rfl rfl fun x542 e543 => ?_
                          have e543t : x542.toInt = 0 := by rw [e543]; rfl
                          refine aw_step (f1 := (195, [some (.ref 65), some (.int bo), some (.int f), some (.int t), some (.int x542), some (.int c), some (.int dd), some (.int x411), some (.int x486), some (.int x531)], [])) (w1 := w511) rfl rfl ?_
                          refine aw_step (f1 := (198, [some (.ref 65), some (.int bo), some (.int f), some (.int t), some (.int x542), some (.int c), some (.int (dd + Int32.ofInt 1)), some (.int x411), some (.int x486), some (.int x531)], [])) (w1 := w511) rfl rfl ?_
                          obtain ⟨x544, x544e⟩ : ∃ z, z = (dd + Int32.ofInt 1) := ⟨_, rfl⟩
                          have x544t : x544.toInt = dd.toInt + (1) := by rw [x544e]; exact n_add (y := Int32.ofInt (1)) (by show _ ≤ _ + (1 : Int); omega) (by show _ + (1 : Int) ≤ _; omega)
                          rw [← x544e]
                          refine aw_step (f1 := (48, [some (.ref 65), some (.int bo), some (.int f), some (.int t), some (.int x542), some (.int c), some (.int x544), some (.int x411), some (.int x486), some (.int x531)], [])) (w1 := w511) rfl rfl ?_
                          exact ih w511 x542 x544 _ _ _ (by omega) (by omega) (by omega) J512 (by omega) (by omega)
                        · --
                          refine s_i (pc1 := 189) (ls1 := [some (.ref 65), some (.int bo), some (.int f), some (.int t), some (.int more), some (.int c), some (.int dd), some (.int x411), some (.int x486), some (.int x531)]) (st1 := []) rfl rfl fun x545 e546 => ?_
                          have e546t : x545.toInt = 1 := by rw [e546]; rfl
                          refine aw_step (f1 := (193, [some (.ref 65), some (.int bo), some (.int f), some (.int t), some (.int more), some (.int c), some (.int dd), some (.int x411), some (.int x486), some (.int x531)], [(.int x545)])) (w1 := w511) rfl rfl ?_
                          refine aw_step (f1 := (195, [some (.ref 65), some (.int bo), some (.int f), some (.int t), some (.int x545), some (.int c), some (.int dd), some (.int x411), some (.int x486), some (.int x531)], [])) (w1 := w511) rfl rfl ?_
                          refine aw_step (f1 := (198, [some (.ref 65), some (.int bo), some (.int f), some (.int t), some (.int x545), some (.int c), some (.int (dd + Int32.ofInt 1)), some (.int x411), some (.int x486), some (.int x531)], [])) (w1 := w511) rfl rfl ?_
                          obtain ⟨x547, x547e⟩ : ∃ z, z = (dd + Int32.ofInt 1) := ⟨_, rfl⟩
                          have x547t : x547.toInt = dd.toInt + (1) := by rw [x547e]; exact n_add (y := Int32.ofInt (1)) (by show _ ≤ _ + (1 : Int); omega) (by show _ + (1 : Int) ≤ _; omega)
                          rw [← x547e]
                          refine aw_step (f1 := (48, [some (.ref 65), some (.int bo), some (.int f), some (.int t), some (.int x545), some (.int c), some (.int x547), some (.int x411), some (.int x486), some (.int x531)], [])) (w1 := w511) rfl rfl ?_
                          exact ih w511 x545 x547 _ _ _ (by omega) (by omega) (by omega) J512 (by omega) (by omega)
              · --
                refine s_i (pc1 := 134) (ls1 := [some (.ref 65), some (.int bo), some (.int f), some (.int t), some (.int more), some (.int c), some (.int dd), some (.int x411), o8, o9]) (st1 := []) rfl rfl fun x548 e549 => ?_
                have e549t : x548.toInt = 1 := by rw [e549]; rfl
                refine aw_step (f1 := (138, [some (.ref 65), some (.int bo), some (.int f), some (.int t), some (.int more), some (.int c), some (.int dd), some (.int x411), o8, o9], [(.int x548)])) (w1 := w483) rfl rfl ?_
                refine aw_step (f1 := (140, [some (.ref 65), some (.int bo), some (.int f), some (.int t), some (.int more), some (.int c), some (.int dd), some (.int x411), some (.int x548), o9], [])) (w1 := w483) rfl rfl ?_
                refine aw_step (f1 := (142, [some (.ref 65), some (.int bo), some (.int f), some (.int t), some (.int more), some (.int c), some (.int dd), some (.int x411), some (.int x548), o9], [(.int x411)])) (w1 := w483) rfl rfl ?_
                refine s_if 170 145 rfl rfl rfl (fun (h550 : x411.toInt = 0) => ?_) (fun (h550 : ¬ (x411.toInt = 0)) => ?_)
                · --
                  refine s_i (pc1 := 171) (ls1 := [some (.ref 65), some (.int bo), some (.int f), some (.int t), some (.int more), some (.int c), some (.int dd), some (.int x411), some (.int x548), o9]) (st1 := []) rfl rfl fun x551 e552 => ?_
                  have e552t : x551.toInt = 0 := by rw [e552]; rfl
                  refine aw_step (f1 := (173, [some (.ref 65), some (.int bo), some (.int f), some (.int t), some (.int more), some (.int c), some (.int dd), some (.int x411), some (.int x548), some (.int x551)], [])) (w1 := w483) rfl rfl ?_
                  refine aw_step (f1 := (175, [some (.ref 65), some (.int bo), some (.int f), some (.int t), some (.int more), some (.int c), some (.int dd), some (.int x411), some (.int x548), some (.int x551)], [(.int more)])) (w1 := w483) rfl rfl ?_
                  refine s_if 188 178 rfl rfl rfl (fun (h553 : ¬ more.toInt = 0) => ?_) (fun (h553 : ¬ (¬ more.toInt = 0)) => ?_)
                  · --
                    refine s_i (pc1 := 189) (ls1 := [some (.ref 65), some (.int bo), some (.int f), some (.int t), some (.int more), some (.int c), some (.int dd), some (.int x411), some (.int x548), some (.int x551)]) (st1 := []) rfl rfl fun x554 e555 => ?_
                    have e555t : x554.toInt = 1 := by rw [e555]; rfl
                    refine aw_step (f1 := (193, [some (.ref 65), some (.int bo), some (.int f), some (.int t), some (.int more), some (.int c), some (.int dd), some (.int x411), some (.int x548), some (.int x551)], [(.int x554)])) (w1 := w483) rfl rfl ?_
                    refine aw_step (f1 := (195, [some (.ref 65), some (.int bo), some (.int f), some (.int t), some (.int x554), some (.int c), some (.int dd), some (.int x411), some (.int x548), some (.int x551)], [])) (w1 := w483) rfl rfl ?_
                    refine aw_step (f1 := (198, [some (.ref 65), some (.int bo), some (.int f), some (.int t), some (.int x554), some (.int c), some (.int (dd + Int32.ofInt 1)), some (.int x411), some (.int x548), some (.int x551)], [])) (w1 := w483) rfl rfl ?_
                    obtain ⟨x556, x556e⟩ : ∃ z, z = (dd + Int32.ofInt 1) := ⟨_, rfl⟩
                    have x556t : x556.toInt = dd.toInt + (1) := by rw [x556e]; exact n_add (y := Int32.ofInt (1)) (by show _ ≤ _ + (1 : Int); omega) (by show _ + (1 : Int) ≤ _; omega)
                    rw [← x556e]
                    refine aw_step (f1 := (48, [some (.ref 65), some (.int bo), some (.int f), some (.int t), some (.int x554), some (.int c), some (.int x556), some (.int x411), some (.int x548), some (.int x551)], [])) (w1 := w483) rfl rfl ?_
                    exact ih w483 x554 x556 _ _ _ (by omega) (by omega) (by omega) J484 (by omega) (by omega)
                  · --
                    refine aw_step (f1 := (180, [some (.ref 65), some (.int bo), some (.int f), some (.int t), some (.int more), some (.int c), some (.int dd), some (.int x411), some (.int x548), some (.int x551)], [(.int x548)])) (w1 := w483) rfl rfl ?_
                    refine s_if 188 183 rfl rfl rfl (fun (h557 : ¬ x548.toInt = 0) => ?_) (fun (h557 : ¬ (¬ x548.toInt = 0)) => ?_)
                    · --
                      refine s_i (pc1 := 189) (ls1 := [some (.ref 65), some (.int bo), some (.int f), some (.int t), some (.int more), some (.int c), some (.int dd), some (.int x411), some (.int x548), some (.int x551)]) (st1 := []) rfl rfl fun x558 e559 => ?_
                      have e559t : x558.toInt = 1 := by rw [e559]; rfl
                      refine aw_step (f1 := (193, [some (.ref 65), some (.int bo), some (.int f), some (.int t), some (.int more), some (.int c), some (.int dd), some (.int x411), some (.int x548), some (.int x551)], [(.int x558)])) (w1 := w483) rfl rfl ?_
                      refine aw_step (f1 := (195, [some (.ref 65), some (.int bo), some (.int f), some (.int t), some (.int x558), some (.int c), some (.int dd), some (.int x411), some (.int x548), some (.int x551)], [])) (w1 := w483) rfl rfl ?_
                      refine aw_step (f1 := (198, [some (.ref 65), some (.int bo), some (.int f), some (.int t), some (.int x558), some (.int c), some (.int (dd + Int32.ofInt 1)), some (.int x411), some (.int x548), some (.int x551)], [])) (w1 := w483) rfl rfl ?_
                      obtain ⟨x560, x560e⟩ : ∃ z, z = (dd + Int32.ofInt 1) := ⟨_, rfl⟩
                      have x560t : x560.toInt = dd.toInt + (1) := by rw [x560e]; exact n_add (y := Int32.ofInt (1)) (by show _ ≤ _ + (1 : Int); omega) (by show _ + (1 : Int) ≤ _; omega)
                      rw [← x560e]
                      refine aw_step (f1 := (48, [some (.ref 65), some (.int bo), some (.int f), some (.int t), some (.int x558), some (.int c), some (.int x560), some (.int x411), some (.int x548), some (.int x551)], [])) (w1 := w483) rfl rfl ?_
                      exact ih w483 x558 x560 _ _ _ (by omega) (by omega) (by omega) J484 (by omega) (by omega)
                    · --
                      refine aw_step (f1 := (185, [some (.ref 65), some (.int bo), some (.int f), some (.int t), some (.int more), some (.int c), some (.int dd), some (.int x411), some (.int x548), some (.int x551)], [(.int x551)])) (w1 := w483) rfl rfl ?_
                      refine s_if 192 188 rfl rfl rfl (fun (h561 : x551.toInt = 0) => ?_) (fun (h561 : ¬ (x551.toInt = 0)) => ?_)
                      · --
                        refine s_i (pc1 := 193) (ls1 := [some (.ref 65), some (.int bo), some (.int f), some (.int t), some (.int more), some (.int c), some (.int dd), some (.int x411), some (.int x548), some (.int x551)]) (st1 := []) rfl rfl fun x562 e563 => ?_
                        have e563t : x562.toInt = 0 := by rw [e563]; rfl
                        refine aw_step (f1 := (195, [some (.ref 65), some (.int bo), some (.int f), some (.int t), some (.int x562), some (.int c), some (.int dd), some (.int x411), some (.int x548), some (.int x551)], [])) (w1 := w483) rfl rfl ?_
                        refine aw_step (f1 := (198, [some (.ref 65), some (.int bo), some (.int f), some (.int t), some (.int x562), some (.int c), some (.int (dd + Int32.ofInt 1)), some (.int x411), some (.int x548), some (.int x551)], [])) (w1 := w483) rfl rfl ?_
                        obtain ⟨x564, x564e⟩ : ∃ z, z = (dd + Int32.ofInt 1) := ⟨_, rfl⟩
                        have x564t : x564.toInt = dd.toInt + (1) := by rw [x564e]; exact n_add (y := Int32.ofInt (1)) (by show _ ≤ _ + (1 : Int); omega) (by show _ + (1 : Int) ≤ _; omega)
                        rw [← x564e]
                        refine aw_step (f1 := (48, [some (.ref 65), some (.int bo), some (.int f), some (.int t), some (.int x562), some (.int c), some (.int x564), some (.int x411), some (.int x548), some (.int x551)], [])) (w1 := w483) rfl rfl ?_
                        exact ih w483 x562 x564 _ _ _ (by omega) (by omega) (by omega) J484 (by omega) (by omega)
                      · --
                        refine s_i (pc1 := 189) (ls1 := [some (.ref 65), some (.int bo), some (.int f), some (.int t), some (.int more), some (.int c), some (.int dd), some (.int x411), some (.int x548), some (.int x551)]) (st1 := []) rfl rfl fun x565 e566 => ?_
                        have e566t : x565.toInt = 1 := by rw [e566]; rfl
                        refine aw_step (f1 := (193, [some (.ref 65), some (.int bo), some (.int f), some (.int t), some (.int more), some (.int c), some (.int dd), some (.int x411), some (.int x548), some (.int x551)], [(.int x565)])) (w1 := w483) rfl rfl ?_
                        refine aw_step (f1 := (195, [some (.ref 65), some (.int bo), some (.int f), some (.int t), some (.int x565), some (.int c), some (.int dd), some (.int x411), some (.int x548), some (.int x551)], [])) (w1 := w483) rfl rfl ?_
                        refine aw_step (f1 := (198, [some (.ref 65), some (.int bo), some (.int f), some (.int t), some (.int x565), some (.int c), some (.int (dd + Int32.ofInt 1)), some (.int x411), some (.int x548), some (.int x551)], [])) (w1 := w483) rfl rfl ?_
                        obtain ⟨x567, x567e⟩ : ∃ z, z = (dd + Int32.ofInt 1) := ⟨_, rfl⟩
                        have x567t : x567.toInt = dd.toInt + (1) := by rw [x567e]; exact n_add (y := Int32.ofInt (1)) (by show _ ≤ _ + (1 : Int); omega) (by show _ + (1 : Int) ≤ _; omega)
                        rw [← x567e]
                        refine aw_step (f1 := (48, [some (.ref 65), some (.int bo), some (.int f), some (.int t), some (.int x565), some (.int c), some (.int x567), some (.int x411), some (.int x548), some (.int x551)], [])) (w1 := w483) rfl rfl ?_
                        exact ih w483 x565 x567 _ _ _ (by omega) (by omega) (by omega) J484 (by omega) (by omega)
                · --
                  refine aw_step (f1 := (146, [some (.ref 65), some (.int bo), some (.int f), some (.int t), some (.int more), some (.int c), some (.int dd), some (.int x411), some (.int x548), o9], [(.ref 65)])) (w1 := w483) rfl rfl ?_
                  refine aw_step (f1 := (148, [some (.ref 65), some (.int bo), some (.int f), some (.int t), some (.int more), some (.int c), some (.int dd), some (.int x411), some (.int x548), o9], [(.int dd), (.ref 65)])) (w1 := w483) rfl rfl ?_
                  refine aw_step (f1 := (149, [some (.ref 65), some (.int bo), some (.int f), some (.int t), some (.int more), some (.int c), some (.int dd), some (.int x411), some (.int x548), o9], [(.ref 65), (.int dd), (.ref 65)])) (w1 := w483) rfl rfl ?_
                  refine s_gr 78 J484 152 rfl rfl rfl rfl rfl rfl ?_
                  refine aw_step (f1 := (154, [some (.ref 65), some (.int bo), some (.int f), some (.int t), some (.int more), some (.int c), some (.int dd), some (.int x411), some (.int x548), o9], [(.int c), (.ref 78), (.int dd), (.ref 65)])) (w1 := w483) rfl rfl ?_
                  refine s_ia J484 155 rfl rfl rfl rfl (by omega) (by omega) fun x568 x568a x568b x568f => ?_
                  refine aw_step (f1 := (156, [some (.ref 65), some (.int bo), some (.int f), some (.int t), some (.int more), some (.int c), some (.int dd), some (.int x411), some (.int x548), o9], [(.ref 65), (.int x568), (.int dd), (.ref 65)])) (w1 := w483) rfl rfl ?_
                  refine s_gi J484 159 rfl rfl rfl rfl rfl rfl fun x569 x569a x569b x569f => ?_
                  refine s_i (pc1 := 160) (ls1 := [some (.ref 65), some (.int bo), some (.int f), some (.int t), some (.int more), some (.int c), some (.int dd), some (.int x411), some (.int x548), o9]) (st1 := [(.int dd), (.ref 65)]) rfl rfl fun x570 e571 => ?_
                  have e571 : x570 = x568 + x569 := e571
                  have e571t : x570.toInt = x568.toInt + x569.toInt := by rw [e571]; exact n_add (by omega) (by omega)
                  refine s_cv (z := 147) (p := 65) (as := [(.int dd), (.int x570)]) (st1 := []) J484 163 rfl rfl rfl rfl rfl rfl rfl rfl (Nat.le_of_ble_eq_true rfl) (Nat.le_of_ble_eq_true rfl) (q_cheapen dd x570 ⟨by omega, by omega⟩ (by omega) J484.1) ?_
                  rintro _ w573 ⟨x572, rfl, J574c, w573o, w573p⟩
                  have J574 := J484.trans J574c
                  refine ⟨am_len2 J484 J574c, ?_⟩
                  show aw none _ 151 _ (163, [some (.ref 65), some (.int bo), some (.int f), some (.int t), some (.int more), some (.int c), some (.int dd), some (.int x411), some (.int x548), o9], [(.int x572)]) w573
                  have w573s := w573p.s (by omega)
                  have w573z := w573o.sz (by decide)
                  refine s_if 170 166 rfl rfl rfl (fun (h575 : x572.toInt = 0) => ?_) (fun (h575 : ¬ (x572.toInt = 0)) => ?_)
                  · --
                    refine s_i (pc1 := 171) (ls1 := [some (.ref 65), some (.int bo), some (.int f), some (.int t), some (.int more), some (.int c), some (.int dd), some (.int x411), some (.int x548), o9]) (st1 := []) rfl rfl fun x576 e577 => ?_
                    have e577t : x576.toInt = 0 := by rw [e577]; rfl
                    refine aw_step (f1 := (173, [some (.ref 65), some (.int bo), some (.int f), some (.int t), some (.int more), some (.int c), some (.int dd), some (.int x411), some (.int x548), some (.int x576)], [])) (w1 := w573) rfl rfl ?_
                    refine aw_step (f1 := (175, [some (.ref 65), some (.int bo), some (.int f), some (.int t), some (.int more), some (.int c), some (.int dd), some (.int x411), some (.int x548), some (.int x576)], [(.int more)])) (w1 := w573) rfl rfl ?_
                    refine s_if 188 178 rfl rfl rfl (fun (h578 : ¬ more.toInt = 0) => ?_) (fun (h578 : ¬ (¬ more.toInt = 0)) => ?_)
                    · --
                      refine s_i (pc1 := 189) (ls1 := [some (.ref 65), some (.int bo), some (.int f), some (.int t), some (.int more), some (.int c), some (.int dd), some (.int x411), some (.int x548), some (.int x576)]) (st1 := []) rfl rfl fun x579 e580 => ?_
                      have e580t : x579.toInt = 1 := by rw [e580]; rfl
                      refine aw_step (f1 := (193, [some (.ref 65), some (.int bo), some (.int f), some (.int t), some (.int more), some (.int c), some (.int dd), some (.int x411), some (.int x548), some (.int x576)], [(.int x579)])) (w1 := w573) rfl rfl ?_
                      refine aw_step (f1 := (195, [some (.ref 65), some (.int bo), some (.int f), some (.int t), some (.int x579), some (.int c), some (.int dd), some (.int x411), some (.int x548), some (.int x576)], [])) (w1 := w573) rfl rfl ?_
                      refine aw_step (f1 := (198, [some (.ref 65), some (.int bo), some (.int f), some (.int t), some (.int x579), some (.int c), some (.int (dd + Int32.ofInt 1)), some (.int x411), some (.int x548), some (.int x576)], [])) (w1 := w573) rfl rfl ?_
                      obtain ⟨x581, x581e⟩ : ∃ z, z = (dd + Int32.ofInt 1) := ⟨_, rfl⟩
                      have x581t : x581.toInt = dd.toInt + (1) := by rw [x581e]; exact n_add (y := Int32.ofInt (1)) (by show _ ≤ _ + (1 : Int); omega) (by show _ + (1 : Int) ≤ _; omega)
                      rw [← x581e]
                      refine aw_step (f1 := (48, [some (.ref 65), some (.int bo), some (.int f), some (.int t), some (.int x579), some (.int c), some (.int x581), some (.int x411), some (.int x548), some (.int x576)], [])) (w1 := w573) rfl rfl ?_
                      exact ih w573 x579 x581 _ _ _ (by omega) (by omega) (by omega) J574 (by omega) (by omega)
                    · --
                      refine aw_step (f1 := (180, [some (.ref 65), some (.int bo), some (.int f), some (.int t), some (.int more), some (.int c), some (.int dd), some (.int x411), some (.int x548), some (.int x576)], [(.int x548)])) (w1 := w573) rfl rfl ?_
                      refine s_if 188 183 rfl rfl rfl (fun (h582 : ¬ x548.toInt = 0) => ?_) (fun (h582 : ¬ (¬ x548.toInt = 0)) => ?_)
                      · --
                        refine s_i (pc1 := 189) (ls1 := [some (.ref 65), some (.int bo), some (.int f), some (.int t), some (.int more), some (.int c), some (.int dd), some (.int x411), some (.int x548), some (.int x576)]) (st1 := []) rfl rfl fun x583 e584 => ?_
                        have e584t : x583.toInt = 1 := by rw [e584]; rfl
                        refine aw_step (f1 := (193, [some (.ref 65), some (.int bo), some (.int f), some (.int t), some (.int more), some (.int c), some (.int dd), some (.int x411), some (.int x548), some (.int x576)], [(.int x583)])) (w1 := w573) rfl rfl ?_
                        refine aw_step (f1 := (195, [some (.ref 65), some (.int bo), some (.int f), some (.int t), some (.int x583), some (.int c), some (.int dd), some (.int x411), some (.int x548), some (.int x576)], [])) (w1 := w573) rfl rfl ?_
                        refine aw_step (f1 := (198, [some (.ref 65), some (.int bo), some (.int f), some (.int t), some (.int x583), some (.int c), some (.int (dd + Int32.ofInt 1)), some (.int x411), some (.int x548), some (.int x576)], [])) (w1 := w573) rfl rfl ?_
                        obtain ⟨x585, x585e⟩ : ∃ z, z = (dd + Int32.ofInt 1) := ⟨_, rfl⟩
                        have x585t : x585.toInt = dd.toInt + (1) := by rw [x585e]; exact n_add (y := Int32.ofInt (1)) (by show _ ≤ _ + (1 : Int); omega) (by show _ + (1 : Int) ≤ _; omega)
                        rw [← x585e]
                        refine aw_step (f1 := (48, [some (.ref 65), some (.int bo), some (.int f), some (.int t), some (.int x583), some (.int c), some (.int x585), some (.int x411), some (.int x548), some (.int x576)], [])) (w1 := w573) rfl rfl ?_
                        exact ih w573 x583 x585 _ _ _ (by omega) (by omega) (by omega) J574 (by omega) (by omega)
                      · --
                        refine aw_step (f1 := (185, [some (.ref 65), some (.int bo), some (.int f), some (.int t), some (.int more), some (.int c), some (.int dd), some (.int x411), some (.int x548), some (.int x576)], [(.int x576)])) (w1 := w573) rfl rfl ?_
                        refine s_if 192 188 rfl rfl rfl (fun (h586 : x576.toInt = 0) => ?_) (fun (h586 : ¬ (x576.toInt = 0)) => ?_)
                        · --
                          refine s_i (pc1 := 193) (ls1 := [some (.ref 65), some (.int bo), some (.int f), some (.int t), some (.int more), some (.int c), some (.int dd), some (.int x411), some (.int x548), some (.int x576)]) (st1 := []) rfl rfl fun x587 e588 => ?_
                          have e588t : x587.toInt = 0 := by rw [e588]; rfl
                          refine aw_step (f1 := (195, [some (.ref 65), some (.int bo), some (.int f), some (.int t), some (.int x587), some (.int c), some (.int dd), some (.int x411), some (.int x548), some (.int x576)], [])) (w1 := w573) rfl rfl ?_
                          refine aw_step (f1 := (198, [some (.ref 65), some (.int bo), some (.int f), some (.int t), some (.int x587), some (.int c), some (.int (dd + Int32.ofInt 1)), some (.int x411), some (.int x548), some (.int x576)], [])) (w1 := w573) rfl rfl ?_
                          obtain ⟨x589, x589e⟩ : ∃ z, z = (dd + Int32.ofInt 1) := ⟨_, rfl⟩
                          have x589t : x589.toInt = dd.toInt + (1) := by rw [x589e]; exact n_add (y := Int32.ofInt (1)) (by show _ ≤ _ + (1 : Int); omega) (by show _ + (1 : Int) ≤ _; omega)
                          rw [← x589e]
                          refine aw_step (f1 := (48, [some (.ref 65), some (.int bo), some (.int f), some (.int t), some (.int x587), some (.int c), some (.int x589), some (.int x411), some (.int x548), some (.int x576)], [])) (w1 := w573) rfl rfl ?_
                          exact ih w573 x587 x589 _ _ _ (by omega) (by omega) (by omega) J574 (by omega) (by omega)
                        · --
                          refine s_i (pc1 := 189) (ls1 := [some (.ref 65), some (.int bo), some (.int f), some (.int t), some (.int more), some (.int c), some (.int dd), some (.int x411), some (.int x548), some (.int x576)]) (st1 := []) rfl rfl fun x590 e591 => ?_
                          have e591t : x590.toInt = 1 := by rw [e591]; rfl
                          refine aw_step (f1 := (193, [some (.ref 65), some (.int bo), some (.int f), some (.int t), some (.int more), some (.int c), some (.int dd), some (.int x411), some (.int x548), some (.int x576)], [(.int x590)])) (w1 := w573) rfl rfl ?_
                          refine aw_step (f1 := (195, [some (.ref 65), some (.int bo), some (.int f), some (.int t), some (.int x590), some (.int c), some (.int dd), some (.int x411), some (.int x548), some (.int x576)], [])) (w1 := w573) rfl rfl ?_
                          refine aw_step (f1 := (198, [some (.ref 65), some (.int bo), some (.int f), some (.int t), some (.int x590), some (.int c), some (.int (dd + Int32.ofInt 1)), some (.int x411), some (.int x548), some (.int x576)], [])) (w1 := w573) rfl rfl ?_
                          obtain ⟨x592, x592e⟩ : ∃ z, z = (dd + Int32.ofInt 1) := ⟨_, rfl⟩
                          have x592t : x592.toInt = dd.toInt + (1) := by rw [x592e]; exact n_add (y := Int32.ofInt (1)) (by show _ ≤ _ + (1 : Int); omega) (by show _ + (1 : Int) ≤ _; omega)
                          rw [← x592e]
                          refine aw_step (f1 := (48, [some (.ref 65), some (.int bo), some (.int f), some (.int t), some (.int x590), some (.int c), some (.int x592), some (.int x411), some (.int x548), some (.int x576)], [])) (w1 := w573) rfl rfl ?_
                          exact ih w573 x590 x592 _ _ _ (by omega) (by omega) (by omega) J574 (by omega) (by omega)
                  · --
                    refine s_i (pc1 := 167) (ls1 := [some (.ref 65), some (.int bo), some (.int f), some (.int t), some (.int more), some (.int c), some (.int dd), some (.int x411), some (.int x548), o9]) (st1 := []) rfl rfl fun x593 e594 => ?_
                    have e594t : x593.toInt = 1 := by rw [e594]; rfl
                    refine aw_step (f1 := (171, [some (.ref 65), some (.int bo), some (.int f), some (.int t), some (.int more), some (.int c), some (.int dd), some (.int x411), some (.int x548), o9], [(.int x593)])) (w1 := w573) rfl rfl ?_
                    refine aw_step (f1 := (173, [some (.ref 65), some (.int bo), some (.int f), some (.int t), some (.int more), some (.int c), some (.int dd), some (.int x411), some (.int x548), some (.int x593)], [])) (w1 := w573) rfl rfl ?_
                    refine aw_step (f1 := (175, [some (.ref 65), some (.int bo), some (.int f), some (.int t), some (.int more), some (.int c), some (.int dd), some (.int x411), some (.int x548), some (.int x593)], [(.int more)])) (w1 := w573) rfl rfl ?_
                    refine s_if 188 178 rfl rfl rfl (fun (h595 : ¬ more.toInt = 0) => ?_) (fun (h595 : ¬ (¬ more.toInt = 0)) => ?_)
                    · --
                      refine s_i (pc1 := 189) (ls1 := [some (.ref 65), some (.int bo), some (.int f), some (.int t), some (.int more), some (.int c), some (.int dd), some (.int x411), some (.int x548), some (.int x593)]) (st1 := []) rfl rfl fun x596 e597 => ?_
                      have e597t : x596.toInt = 1 := by rw [e597]; rfl
                      refine aw_step (f1 := (193, [some (.ref 65), some (.int bo), some (.int f), some (.int t), some (.int more), some (.int c), some (.int dd), some (.int x411), some (.int x548), some (.int x593)], [(.int x596)])) (w1 := w573) rfl rfl ?_
                      refine aw_step (f1 := (195, [some (.ref 65), some (.int bo), some (.int f), some (.int t), some (.int x596), some (.int c), some (.int dd), some (.int x411), some (.int x548), some (.int x593)], [])) (w1 := w573) rfl rfl ?_
                      refine aw_step (f1 := (198, [some (.ref 65), some (.int bo), some (.int f), some (.int t), some (.int x596), some (.int c), some (.int (dd + Int32.ofInt 1)), some (.int x411), some (.int x548), some (.int x593)], [])) (w1 := w573) rfl rfl ?_
                      obtain ⟨x598, x598e⟩ : ∃ z, z = (dd + Int32.ofInt 1) := ⟨_, rfl⟩
                      have x598t : x598.toInt = dd.toInt + (1) := by rw [x598e]; exact n_add (y := Int32.ofInt (1)) (by show _ ≤ _ + (1 : Int); omega) (by show _ + (1 : Int) ≤ _; omega)
                      rw [← x598e]
                      refine aw_step (f1 := (48, [some (.ref 65), some (.int bo), some (.int f), some (.int t), some (.int x596), some (.int c), some (.int x598), some (.int x411), some (.int x548), some (.int x593)], [])) (w1 := w573) rfl rfl ?_
                      exact ih w573 x596 x598 _ _ _ (by omega) (by omega) (by omega) J574 (by omega) (by omega)
                    · --
                      refine aw_step (f1 := (180, [some (.ref 65), some (.int bo), some (.int f), some (.int t), some (.int more), some (.int c), some (.int dd), some (.int x411), some (.int x548), some (.int x593)], [(.int x548)])) (w1 := w573) rfl rfl ?_
                      refine s_if 188 183 rfl rfl rfl (fun (h599 : ¬ x548.toInt = 0) => ?_) (fun (h599 : ¬ (¬ x548.toInt = 0)) => ?_)
                      · --
                        refine s_i (pc1 := 189) (ls1 := [some (.ref 65), some (.int bo), some (.int f), some (.int t), some (.int more), some (.int c), some (.int dd), some (.int x411), some (.int x548), some (.int x593)]) (st1 := []) rfl rfl fun x600 e601 => ?_
                        have e601t : x600.toInt = 1 := by rw [e601]; rfl
                        refine aw_step (f1 := (193, [some (.ref 65), some (.int bo), some (.int f), some (.int t), some (.int more), some (.int c), some (.int dd), some (.int x411), some (.int x548), some (.int x593)], [(.int x600)])) (w1 := w573) rfl rfl ?_
                        refine aw_step (f1 := (195, [some (.ref 65), some (.int bo), some (.int f), some (.int t), some (.int x600), some (.int c), some (.int dd), some (.int x411), some (.int x548), some (.int x593)], [])) (w1 := w573) rfl rfl ?_
                        refine aw_step (f1 := (198, [some (.ref 65), some (.int bo), some (.int f), some (.int t), some (.int x600), some (.int c), some (.int (dd + Int32.ofInt 1)), some (.int x411), some (.int x548), some (.int x593)], [])) (w1 := w573) rfl rfl ?_
                        obtain ⟨x602, x602e⟩ : ∃ z, z = (dd + Int32.ofInt 1) := ⟨_, rfl⟩
                        have x602t : x602.toInt = dd.toInt + (1) := by rw [x602e]; exact n_add (y := Int32.ofInt (1)) (by show _ ≤ _ + (1 : Int); omega) (by show _ + (1 : Int) ≤ _; omega)
                        rw [← x602e]
                        refine aw_step (f1 := (48, [some (.ref 65), some (.int bo), some (.int f), some (.int t), some (.int x600), some (.int c), some (.int x602), some (.int x411), some (.int x548), some (.int x593)], [])) (w1 := w573) rfl rfl ?_
                        exact ih w573 x600 x602 _ _ _ (by omega) (by omega) (by omega) J574 (by omega) (by omega)
                      · --
                        refine aw_step (f1 := (185, [some (.ref 65), some (.int bo), some (.int f), some (.int t), some (.int more), some (.int c), some (.int dd), some (.int x411), some (.int x548), some (.int x593)], [(.int x593)])) (w1 := w573) rfl rfl ?_
                        refine s_if 192 188 rfl rfl rfl (fun (h603 : x593.toInt = 0) => ?_) (fun (h603 : ¬ (x593.toInt = 0)) => ?_)
                        · --
                          refine s_i (pc1 := 193) (ls1 := [some (.ref 65), some (.int bo), some (.int f), some (.int t), some (.int more), some (.int c), some (.int dd), some (.int x411), some (.int x548), some (.int x593)]) (st1 := []) rfl rfl fun x604 e605 => ?_
                          have e605t : x604.toInt = 0 := by rw [e605]; rfl
                          refine aw_step (f1 := (195, [some (.ref 65), some (.int bo), some (.int f), some (.int t), some (.int x604), some (.int c), some (.int dd), some (.int x411), some (.int x548), some (.int x593)], [])) (w1 := w573) rfl rfl ?_
                          refine aw_step (f1 := (198, [some (.ref 65), some (.int bo), some (.int f), some (.int t), some (.int x604), some (.int c), some (.int (dd + Int32.ofInt 1)), some (.int x411), some (.int x548), some (.int x593)], [])) (w1 := w573) rfl rfl ?_
                          obtain ⟨x606, x606e⟩ : ∃ z, z = (dd + Int32.ofInt 1) := ⟨_, rfl⟩
                          have x606t : x606.toInt = dd.toInt + (1) := by rw [x606e]; exact n_add (y := Int32.ofInt (1)) (by show _ ≤ _ + (1 : Int); omega) (by show _ + (1 : Int) ≤ _; omega)
                          rw [← x606e]
                          refine aw_step (f1 := (48, [some (.ref 65), some (.int bo), some (.int f), some (.int t), some (.int x604), some (.int c), some (.int x606), some (.int x411), some (.int x548), some (.int x593)], [])) (w1 := w573) rfl rfl ?_
                          exact ih w573 x604 x606 _ _ _ (by omega) (by omega) (by omega) J574 (by omega) (by omega)
                        · --
                          refine s_i (pc1 := 189) (ls1 := [some (.ref 65), some (.int bo), some (.int f), some (.int t), some (.int more), some (.int c), some (.int dd), some (.int x411), some (.int x548), some (.int x593)]) (st1 := []) rfl rfl fun x607 e608 => ?_
                          have e608t : x607.toInt = 1 := by rw [e608]; rfl
                          refine aw_step (f1 := (193, [some (.ref 65), some (.int bo), some (.int f), some (.int t), some (.int more), some (.int c), some (.int dd), some (.int x411), some (.int x548), some (.int x593)], [(.int x607)])) (w1 := w573) rfl rfl ?_
                          refine aw_step (f1 := (195, [some (.ref 65), some (.int bo), some (.int f), some (.int t), some (.int x607), some (.int c), some (.int dd), some (.int x411), some (.int x548), some (.int x593)], [])) (w1 := w573) rfl rfl ?_
                          refine aw_step (f1 := (198, [some (.ref 65), some (.int bo), some (.int f), some (.int t), some (.int x607), some (.int c), some (.int (dd + Int32.ofInt 1)), some (.int x411), some (.int x548), some (.int x593)], [])) (w1 := w573) rfl rfl ?_
                          obtain ⟨x609, x609e⟩ : ∃ z, z = (dd + Int32.ofInt 1) := ⟨_, rfl⟩
                          have x609t : x609.toInt = dd.toInt + (1) := by rw [x609e]; exact n_add (y := Int32.ofInt (1)) (by show _ ≤ _ + (1 : Int); omega) (by show _ + (1 : Int) ≤ _; omega)
                          rw [← x609e]
                          refine aw_step (f1 := (48, [some (.ref 65), some (.int bo), some (.int f), some (.int t), some (.int x607), some (.int c), some (.int x609), some (.int x411), some (.int x548), some (.int x593)], [])) (w1 := w573) rfl rfl ?_
                          exact ih w573 x607 x609 _ _ _ (by omega) (by omega) (by omega) J574 (by omega) (by omega)
theorem q_timeJ {d : Nat} {Q : Option Value → am_W → Prop} {w00 : am_W} {z s0 : Int} (bo f t : Int32) (K : ∀ (w : am_W) (more c : Int32) (o6 o7 o8 o9 : Option Value), ab_J ab_TT ab_sets ab_WR w00 w → szM w = z → ((more.toInt = 1 ∧ sC w < s0) ∨ (more.toInt = 0 ∧ sC w ≤ s0)) → aw none (d + 3) 151 Q (207, [some (.ref 65), some (.int bo), some (.int f), some (.int t), some (.int more), some (.int c), o6, o7, o8, o9], []) w) : ∀ (m : Nat) (w : am_W) (more c : Int32) (o6 o7 o8 o9 : Option Value), (z - c.toInt).toNat < m → 0 ≤ c.toInt → c.toInt ≤ z → ab_J ab_TT ab_sets ab_WR w00 w → szM w = z → ((more.toInt = 1 ∧ sC w < s0) ∨ (more.toInt = 0 ∧ sC w ≤ s0)) → aw none (d + 3) 151 Q (36, [some (.ref 65), some (.int bo), some (.int f), some (.int t), some (.int more), some (.int c), o6, o7, o8, o9], []) w := by
  intro m
  induction m with
  | zero => intro w more c o6 o7 o8 o9 p; omega
  | succ m ih =>
    intro w more c o6 o7 o8 o9 p1 p2 p3 J zz R
    have sz := szM_in J.1
    refine aw_step (f1 := (38, [some (.ref 65), some (.int bo), some (.int f), some (.int t), some (.int more), some (.int c), o6, o7, o8, o9], [(.int c)])) (w1 := w) rfl rfl ?_
    refine aw_step (f1 := (39, [some (.ref 65), some (.int bo), some (.int f), some (.int t), some (.int more), some (.int c), o6, o7, o8, o9], [(.ref 65), (.int c)])) (w1 := w) rfl rfl ?_
    refine s_cv (z := 113) (p := 65) (as := []) (st1 := [(.int c)]) J 42 rfl rfl rfl rfl rfl rfl rfl rfl (Nat.le_of_ble_eq_true rfl) (Nat.le_of_ble_eq_true rfl) (q_cells J.1) ?_
    rintro _ _ ⟨rfl, x1, rfl, x1t⟩
    refine ⟨rfl, ?_⟩
    show aw none _ 151 _ (42, [some (.ref 65), some (.int bo), some (.int f), some (.int t), some (.int more), some (.int c), o6, o7, o8, o9], [(.int x1), (.int c)]) w
    have x1s := szM_in J.1
    refine s_ic 207 45 rfl rfl rfl (fun (h2 : x1.toInt ≤ c.toInt) => ?_) (fun (h2 : ¬ (x1.toInt ≤ c.toInt)) => ?_)
    · --
      exact K w more c _ _ _ _ J zz R
    · --
      refine s_i (pc1 := 46) (ls1 := [some (.ref 65), some (.int bo), some (.int f), some (.int t), some (.int more), some (.int c), o6, o7, o8, o9]) (st1 := []) rfl rfl fun x3 e4 => ?_
      have e4t : x3.toInt = 0 := by rw [e4]; rfl
      refine aw_step (f1 := (48, [some (.ref 65), some (.int bo), some (.int f), some (.int t), some (.int more), some (.int c), some (.int x3), o7, o8, o9], [])) (w1 := w) rfl rfl ?_
      refine q_timeI bo f t c ⟨by omega, by omega⟩ (fun wq mq dq o7q o8q o9q Jq zq Rq => ?_) (z.toNat + 1) w more x3 _ _ _ (by omega) (by omega) (by omega) J zz R
      refine aw_step (f1 := (204, [some (.ref 65), some (.int bo), some (.int f), some (.int t), some (.int mq), some (.int (c + Int32.ofInt 1)), some (.int dq), o7q, o8q, o9q], [])) (w1 := wq) rfl rfl ?_
      obtain ⟨zx1, zx1e⟩ : ∃ z, z = (c + Int32.ofInt 1) := ⟨_, rfl⟩
      have zx1t : zx1.toInt = c.toInt + (1) := by rw [zx1e]; exact n_add (y := Int32.ofInt (1)) (by show _ ≤ _ + (1 : Int); omega) (by show _ + (1 : Int) ≤ _; omega)
      rw [← zx1e]
      refine aw_step (f1 := (36, [some (.ref 65), some (.int bo), some (.int f), some (.int t), some (.int mq), some (.int zx1), some (.int dq), o7q, o8q, o9q], [])) (w1 := wq) rfl rfl ?_
      exact ih wq mq zx1 _ _ _ _ (by omega) (by omega) (by omega) Jq zq Rq
theorem q_timeO {d : Nat} {w00 : am_W} (bo f t : Int32) (ht : 0 ≤ t.toInt ∧ t.toInt < 36) : ∀ (m : Nat) (w : am_W) (more : Int32) (o5 o6 o7 o8 o9 : Option Value), ((sC w).toNat + more.toInt.toNat) < m → (more.toInt = 0 ∨ more.toInt = 1) → ab_J ab_TT ab_sets ab_WR w00 w → aw none (d + 3) 151 (QS w00) (25, [some (.ref 65), some (.int bo), some (.int f), some (.int t), some (.int more), o5, o6, o7, o8, o9], []) w := by
  intro m
  induction m with
  | zero => intro w more o5 o6 o7 o8 o9 p; omega
  | succ m ih =>
    intro w more o5 o6 o7 o8 o9 p1 p2 J
    have sz := szM_in J.1
    refine aw_step (f1 := (27, [some (.ref 65), some (.int bo), some (.int f), some (.int t), some (.int more), o5, o6, o7, o8, o9], [(.int more)])) (w1 := w) rfl rfl ?_
    refine s_if 210 30 rfl rfl rfl (fun (h1 : more.toInt = 0) => ?_) (fun (h1 : ¬ (more.toInt = 0)) => ?_)
    · --
      refine aw_step (f1 := (211, [some (.ref 65), some (.int bo), some (.int f), some (.int t), some (.int more), o5, o6, o7, o8, o9], [(.ref 65)])) (w1 := w) rfl rfl ?_
      refine s_gr 78 J 214 rfl rfl rfl rfl rfl rfl ?_
      refine aw_step (f1 := (215, [some (.ref 65), some (.int bo), some (.int f), some (.int t), some (.int more), o5, o6, o7, o8, o9], [(.int t), (.ref 78)])) (w1 := w) rfl rfl ?_
      refine s_ia J 216 rfl rfl rfl rfl (by omega) (by omega) fun x2 x2a x2b x2f => ?_
      refine s_i (pc1 := 218) (ls1 := [some (.ref 65), some (.int bo), some (.int f), some (.int t), some (.int more), o5, o6, o7, o8, o9]) (st1 := [(.int x2)]) rfl rfl fun x3 e4 => ?_
      have e4t : x3.toInt = 100000 := by rw [e4]; rfl
      refine s_ic 226 221 rfl rfl rfl (fun (h5 : ¬ x2.toInt = x3.toInt) => ?_) (fun (h5 : ¬ (¬ x2.toInt = x3.toInt)) => ?_)
      · --
        refine aw_step (f1 := (227, [some (.ref 65), some (.int bo), some (.int f), some (.int t), some (.int more), o5, o6, o7, o8, o9], [(.ref 65)])) (w1 := w) rfl rfl ?_
        refine s_gr 78 J 230 rfl rfl rfl rfl rfl rfl ?_
        refine aw_step (f1 := (231, [some (.ref 65), some (.int bo), some (.int f), some (.int t), some (.int more), o5, o6, o7, o8, o9], [(.int t), (.ref 78)])) (w1 := w) rfl rfl ?_
        refine s_ia J 232 rfl rfl rfl rfl (by omega) (by omega) fun x6 x6a x6b x6f => ?_
        refine aw_ret (v := some (.int x6)) rfl rfl ?_
        exact ⟨J, x6, rfl⟩
      · --
        refine s_i (pc1 := 223) (ls1 := [some (.ref 65), some (.int bo), some (.int f), some (.int t), some (.int more), o5, o6, o7, o8, o9]) (st1 := []) rfl rfl fun x7 e8 => ?_
        have e8t : x7.toInt = -6 := by rw [e8]; rfl
        refine aw_step (f1 := (232, [some (.ref 65), some (.int bo), some (.int f), some (.int t), some (.int more), o5, o6, o7, o8, o9], [(.int x7)])) (w1 := w) rfl rfl ?_
        refine aw_ret (v := some (.int x7)) rfl rfl ?_
        exact ⟨J, x7, rfl⟩
    · --
      refine s_i (pc1 := 31) (ls1 := [some (.ref 65), some (.int bo), some (.int f), some (.int t), some (.int more), o5, o6, o7, o8, o9]) (st1 := []) rfl rfl fun x9 e10 => ?_
      have e10t : x9.toInt = 0 := by rw [e10]; rfl
      refine aw_step (f1 := (33, [some (.ref 65), some (.int bo), some (.int f), some (.int t), some (.int x9), o5, o6, o7, o8, o9], [])) (w1 := w) rfl rfl ?_
      refine s_i (pc1 := 34) (ls1 := [some (.ref 65), some (.int bo), some (.int f), some (.int t), some (.int x9), o5, o6, o7, o8, o9]) (st1 := []) rfl rfl fun x11 e12 => ?_
      have e12t : x11.toInt = 0 := by rw [e12]; rfl
      refine aw_step (f1 := (36, [some (.ref 65), some (.int bo), some (.int f), some (.int t), some (.int x9), some (.int x11), o6, o7, o8, o9], [])) (w1 := w) rfl rfl ?_
      have s1 := sC_0 J.1
      refine q_timeJ (z := szM w) (s0 := sC w) bo f t (fun wq mq cq o6q o7q o8q o9q Jq zq Rq => ?_) ((szM w).toNat + 1) w x9 x11 _ _ _ _ (by omega) (by omega) (by omega) J rfl (by omega)
      have s2 := sC_0 Jq.1
      refine aw_step (f1 := (25, [some (.ref 65), some (.int bo), some (.int f), some (.int t), some (.int mq), some (.int cq), o6q, o7q, o8q, o9q], [])) (w1 := wq) rfl rfl ?_
      exact ih wq mq _ _ _ _ _ (by omega) (by omega) Jq
theorem q_time {d : Nat} {w : am_W} (bo f t : Int32) (I : ab_inv ab_TT ab_sets w) : aw none (d + 6) 151 (QS w) (0, am_entry 151 [.ref 65, .int bo, .int f, .int t], []) w := by
  have J : ab_J ab_TT ab_sets ab_WR w w := ⟨I, ab_fr.rf⟩
  have sz := szM_in I
  show aw none (d + 6) 151 _ (0, [some (.ref 65), some (.int bo), some (.int f), some (.int t), none, none, none, none, none, none], []) w
  refine aw_step (f1 := (1, [some (.ref 65), some (.int bo), some (.int f), some (.int t), none, none, none, none, none, none], [(.ref 65)])) (w1 := w) rfl rfl ?_
  refine aw_step (f1 := (2, [some (.ref 65), some (.int bo), some (.int f), some (.int t), none, none, none, none, none, none], [(.int bo), (.ref 65)])) (w1 := w) rfl rfl ?_
  refine aw_step (f1 := (3, [some (.ref 65), some (.int bo), some (.int f), some (.int t), none, none, none, none, none, none], [(.int f), (.int bo), (.ref 65)])) (w1 := w) rfl rfl ?_
  refine aw_step (f1 := (4, [some (.ref 65), some (.int bo), some (.int f), some (.int t), none, none, none, none, none, none], [(.int t), (.int f), (.int bo), (.ref 65)])) (w1 := w) rfl rfl ?_
  refine s_cv (z := 143) (p := 65) (as := [(.int bo), (.int f), (.int t)]) (st1 := []) J 7 rfl rfl rfl rfl rfl rfl rfl rfl (Nat.le_of_ble_eq_true rfl) (Nat.le_of_ble_eq_true rfl) (q_isAsked bo f t J.1) ?_
  rintro _ _ ⟨rfl, x1, rfl, x1t⟩
  refine ⟨rfl, ?_⟩
  show aw none _ 151 _ (7, [some (.ref 65), some (.int bo), some (.int f), some (.int t), none, none, none, none, none, none], [(.int x1)]) w
  have x1s := szM_in J.1
  refine s_if 12 10 rfl rfl rfl (fun (h2 : ¬ x1.toInt = 0) => ?_) (fun (h2 : ¬ (¬ x1.toInt = 0)) => ?_)
  · --
    refine aw_step (f1 := (13, [some (.ref 65), some (.int bo), some (.int f), some (.int t), none, none, none, none, none, none], [(.ref 65)])) (w1 := w) rfl rfl ?_
    refine aw_step (f1 := (14, [some (.ref 65), some (.int bo), some (.int f), some (.int t), none, none, none, none, none, none], [(.int bo), (.ref 65)])) (w1 := w) rfl rfl ?_
    refine s_cv (z := 133) (p := 65) (as := [(.int bo)]) (st1 := []) J 17 rfl rfl rfl rfl rfl rfl rfl rfl (Nat.le_of_ble_eq_true rfl) (Nat.le_of_ble_eq_true rfl) (q_putOn bo ⟨by omega, by omega⟩ J.1) ?_
    rintro _ w3 ⟨rfl, J4c, w3o, w3p⟩
    have J4 := J.trans J4c
    refine ⟨am_len2 J J4c, ?_⟩
    show aw none _ 151 _ (17, [some (.ref 65), some (.int bo), some (.int f), some (.int t), none, none, none, none, none, none], []) w3
    have zo := w3o.sz (by decide)
    refine aw_step (f1 := (18, [some (.ref 65), some (.int bo), some (.int f), some (.int t), none, none, none, none, none, none], [(.ref 65)])) (w1 := w3) rfl rfl ?_
    refine aw_step (f1 := (19, [some (.ref 65), some (.int bo), some (.int f), some (.int t), none, none, none, none, none, none], [(.int f), (.ref 65)])) (w1 := w3) rfl rfl ?_
    refine s_cv (z := 146) (p := 65) (as := [(.int f)]) (st1 := []) J4 22 rfl rfl rfl rfl rfl rfl rfl rfl (Nat.le_of_ble_eq_true rfl) (Nat.le_of_ble_eq_true rfl) (q_beginCosts f ⟨by omega, by omega⟩ J4.1) ?_
    rintro _ w5 ⟨rfl, J6c, w5o, w5p⟩
    have J6 := J4.trans J6c
    refine ⟨am_len2 J4 J6c, ?_⟩
    show aw none _ 151 _ (22, [some (.ref 65), some (.int bo), some (.int f), some (.int t), none, none, none, none, none, none], []) w5
    refine s_i (pc1 := 23) (ls1 := [some (.ref 65), some (.int bo), some (.int f), some (.int t), none, none, none, none, none, none]) (st1 := []) rfl rfl fun x7 e8 => ?_
    have e8t : x7.toInt = 1 := by rw [e8]; rfl
    refine aw_step (f1 := (25, [some (.ref 65), some (.int bo), some (.int f), some (.int t), some (.int x7), none, none, none, none, none], [])) (w1 := w5) rfl rfl ?_
    exact q_timeO bo f t ⟨by omega, by omega⟩ ((sC w5).toNat + 2) w5 x7 _ _ _ _ _ (by omega) (by omega) J6
  · --
    refine s_i (pc1 := 11) (ls1 := [some (.ref 65), some (.int bo), some (.int f), some (.int t), none, none, none, none, none, none]) (st1 := []) rfl rfl fun x9 e10 => ?_
    have e10t : x9.toInt = -1 := by rw [e10]; rfl
    refine aw_ret (v := some (.int x9)) rfl rfl ?_
    exact ⟨J, x9, rfl⟩
