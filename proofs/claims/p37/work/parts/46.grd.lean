/-! ===== findRounds, guard ===== -/
noncomputable def sR (w : am_W) : Int := sm (rI w 86) 1296
theorem sR_0 {w : am_W} (I : ab_inv ab_TT ab_sets w) : 0 ≤ sR w := sm_0 fun j _ => (rds_b I j).1
noncomputable def gB (wb w : am_W) (g t : Nat) : Int := bst (rI w 86) (rL wb 74 g) (rL wb 75 t) g t (szM wb).toNat
noncomputable def gI (wb w : am_W) : Prop := (∀ g : Nat, g < 36 → rI w 86 (36 * g + g) = 0) ∧ ∀ g t : Nat, (g : Int) < szM wb → (t : Int) < szM wb → g ≠ t → rI w 86 (36 * g + t) < 100000 → gB wb w g t ≤ rI w 86 (36 * g + t)
noncomputable def gF (wb w : am_W) (g t : Int) : Prop := ∀ a b : Nat, ((a : Int) < g ∨ ((a : Int) = g ∧ (b : Int) < t)) → (a : Int) < szM wb → (b : Int) < szM wb → a ≠ b → ldM wb a → ldM wb b → rI w 86 (36 * a + b) ≤ gB wb w a b
theorem gI.st {wb w w2 : am_W} {g t : Nat} {v : Int} (h : gI wb w) (hz : szM wb ≤ 36) (hg : (g : Int) < szM wb) (ht : (t : Int) < szM wb) (hgt : g ≠ t) (h1 : rI w2 86 (36 * g + t) = v) (h2 : ∀ j, j ≠ 36 * g + t → rI w2 86 j = rI w 86 j) (hv : v = gB wb w g t) (hl : v < rI w 86 (36 * g + t)) : gI wb w2 := by
  have hm : ∀ j, rI w2 86 j ≤ rI w 86 j := by
    intro j
    by_cases e : j = 36 * g + t
    · rw [e, h1]; omega
    · rw [h2 j e]; exact Int.le_refl _
  refine ⟨fun a ha => ?_, fun a b ha hb hab hr => ?_⟩
  · rw [h2 _ (by omega)]; exact h.1 a ha
  · have m1 : gB wb w2 a b ≤ gB wb w a b := bst_m hm
    by_cases e : 36 * a + b = 36 * g + t
    · have e1 : a = g := by omega
      have e2 : b = t := by omega
      subst e1
      subst e2
      rw [h1]
      omega
    · rw [h2 _ e] at hr ⊢
      have := h.2 a b ha hb hab hr
      omega
theorem sR_lt {w w2 : am_W} {j : Nat} {v : Int} (hj : j < 1296) (h1 : rI w2 86 j = v) (h2 : ∀ i, i ≠ j → rI w2 86 i = rI w 86 i) (hl : v < rI w 86 j) : sR w2 < sR w := by
  refine sm_lt (k := j) (by omega) (fun i _ => ?_) hj
  by_cases e : i = j
  · rw [e]; omega
  · rw [h2 i e]; exact Int.le_refl _
theorem q_frI {d : Nat} {Q : Option Value → am_W → Prop} {w00 wb : am_W} {s0 : Int} (g : Int32) (hg : 0 ≤ g.toInt ∧ g.toInt < szM wb) (K : ∀ (w : am_W) (more t : Int32) (o4 o5 : Option Value), ab_J ab_TT ab_sets ab_WR w00 w → only [86] wb w → gI wb w → szM wb ≤ t.toInt → ((more.toInt = 1 ∧ sR w < s0) ∨ (more.toInt = 0 ∧ sR w ≤ s0 ∧ gF wb w g.toInt t.toInt)) → aw none (d + 4) 175 Q (154, [some (.ref 65), some (.int more), some (.int g), some (.int t), o4, o5], []) w) : ∀ (m : Nat) (w : am_W) (more t : Int32) (o4 o5 : Option Value), (szM wb - t.toInt).toNat < m → 0 ≤ t.toInt → t.toInt ≤ szM wb → ab_J ab_TT ab_sets ab_WR w00 w → only [86] wb w → gI wb w → ((more.toInt = 1 ∧ sR w < s0) ∨ (more.toInt = 0 ∧ sR w ≤ s0 ∧ gF wb w g.toInt t.toInt)) → aw none (d + 4) 175 Q (58, [some (.ref 65), some (.int more), some (.int g), some (.int t), o4, o5], []) w := by
  intro m
  induction m with
  | zero => intro w more t o4 o5 p; omega
  | succ m ih =>
    intro w more t o4 o5 p1 p2 p3 J O GI R
    have zz := O.sz (by decide)
    have sz := szM_in J.1
    have ge : gB wb w g.toInt.toNat t.toInt.toNat = bst (rI w 86) (rL w 74 g.toInt.toNat) (rL w 75 t.toInt.toNat) g.toInt.toNat t.toInt.toNat (szM w).toNat := by unfold gB; rw [O.rLe (by decide), O.rLe (by decide), O.sz (by decide)]
    refine aw_step (f1 := (59, [some (.ref 65), some (.int more), some (.int g), some (.int t), o4, o5], [(.int t)])) (w1 := w) rfl rfl ?_
    refine aw_step (f1 := (60, [some (.ref 65), some (.int more), some (.int g), some (.int t), o4, o5], [(.ref 65), (.int t)])) (w1 := w) rfl rfl ?_
    refine s_cv (z := 113) (p := 65) (as := []) (st1 := [(.int t)]) J 63 rfl rfl rfl rfl rfl rfl rfl rfl (Nat.le_of_ble_eq_true rfl) (Nat.le_of_ble_eq_true rfl) (q_cells J.1) ?_
    rintro _ _ ⟨rfl, x1, rfl, x1t⟩
    refine ⟨rfl, ?_⟩
    show aw none _ 175 _ (63, [some (.ref 65), some (.int more), some (.int g), some (.int t), o4, o5], [(.int x1), (.int t)]) w
    have x1s := szM_in J.1
    refine s_ic 154 66 rfl rfl rfl (fun (h2 : x1.toInt ≤ t.toInt) => ?_) (fun (h2 : ¬ (x1.toInt ≤ t.toInt)) => ?_)
    · --
      exact K w more t _ _ J O GI (by omega) R
    · --
      refine aw_step (f1 := (67, [some (.ref 65), some (.int more), some (.int g), some (.int t), o4, o5], [(.int g)])) (w1 := w) rfl rfl ?_
      refine aw_step (f1 := (68, [some (.ref 65), some (.int more), some (.int g), some (.int t), o4, o5], [(.int t), (.int g)])) (w1 := w) rfl rfl ?_
      refine s_ic 91 71 rfl rfl rfl (fun (h3 : g.toInt = t.toInt) => ?_) (fun (h3 : ¬ (g.toInt = t.toInt)) => ?_)
      · --
        refine s_i (pc1 := 92) (ls1 := [some (.ref 65), some (.int more), some (.int g), some (.int t), o4, o5]) (st1 := []) rfl rfl fun x4 e5 => ?_
        have e5t : x4.toInt = 0 := by rw [e5]; rfl
        refine aw_step (f1 := (94, [some (.ref 65), some (.int more), some (.int g), some (.int t), some (.int x4), o5], [])) (w1 := w) rfl rfl ?_
        refine aw_step (f1 := (96, [some (.ref 65), some (.int more), some (.int g), some (.int t), some (.int x4), o5], [(.int x4)])) (w1 := w) rfl rfl ?_
        refine s_if 108 99 rfl rfl rfl (fun (h6 : x4.toInt = 0) => ?_) (fun (h6 : ¬ (x4.toInt = 0)) => ?_)
        · --
          refine s_i (pc1 := 110) (ls1 := [some (.ref 65), some (.int more), some (.int g), some (.int t), some (.int x4), o5]) (st1 := []) rfl rfl fun x7 e8 => ?_
          have e8t : x7.toInt = 100000 := by rw [e8]; rfl
          refine aw_step (f1 := (112, [some (.ref 65), some (.int more), some (.int g), some (.int t), some (.int x4), some (.int x7)], [])) (w1 := w) rfl rfl ?_
          refine aw_step (f1 := (114, [some (.ref 65), some (.int more), some (.int g), some (.int t), some (.int x4), some (.int x7)], [(.int x4)])) (w1 := w) rfl rfl ?_
          refine s_if 148 117 rfl rfl rfl (fun (h9 : x4.toInt = 0) => ?_) (fun (h9 : ¬ (x4.toInt = 0)) => ?_)
          · --
            refine aw_step (f1 := (151, [some (.ref 65), some (.int more), some (.int g), some (.int (t + Int32.ofInt 1)), some (.int x4), some (.int x7)], [])) (w1 := w) rfl rfl ?_
            obtain ⟨x10, x10e⟩ : ∃ z, z = (t + Int32.ofInt 1) := ⟨_, rfl⟩
            have x10t : x10.toInt = t.toInt + (1) := by rw [x10e]; exact n_add (y := Int32.ofInt (1)) (by show _ ≤ _ + (1 : Int); omega) (by show _ + (1 : Int) ≤ _; omega)
            rw [← x10e]
            refine aw_step (f1 := (58, [some (.ref 65), some (.int more), some (.int g), some (.int x10), some (.int x4), some (.int x7)], [])) (w1 := w) rfl rfl ?_
            exact ih w more x10 _ _ (by omega) (by omega) (by omega) J O GI (by
              rcases R with q | ⟨q1, q2, q3⟩
              · exact Or.inl q
              · refine Or.inr ⟨q1, q2, fun a b hab ha hb hne la lb => ?_⟩
                by_cases e : (a : Int) = g.toInt ∧ (b : Int) = t.toInt
                · have l1 := (O.ld (by decide) (by decide) g.toInt).mpr (e.1 ▸ la)
                  have l2 := (O.ld (by decide) (by decide) t.toInt).mpr (e.2 ▸ lb)
                  unfold ldM at l1 l2
                  first
                    | (exfalso; omega)
                    | (rw [show a = g.toInt.toNat by omega, show b = t.toInt.toNat by omega, hr, ge]; omega)
                · exact q3 a b (by omega) ha hb hne la lb)
          · --
            refine aw_step (f1 := (119, [some (.ref 65), some (.int more), some (.int g), some (.int t), some (.int x4), some (.int x7)], [(.int x7)])) (w1 := w) rfl rfl ?_
            refine aw_step (f1 := (120, [some (.ref 65), some (.int more), some (.int g), some (.int t), some (.int x4), some (.int x7)], [(.ref 65), (.int x7)])) (w1 := w) rfl rfl ?_
            refine s_gr 86 J 123 rfl rfl rfl rfl rfl rfl ?_
            refine s_i (pc1 := 125) (ls1 := [some (.ref 65), some (.int more), some (.int g), some (.int t), some (.int x4), some (.int x7)]) (st1 := [(.ref 86), (.int x7)]) rfl rfl fun x11 e12 => ?_
            have e12t : x11.toInt = 36 := by rw [e12]; rfl
            refine aw_step (f1 := (126, [some (.ref 65), some (.int more), some (.int g), some (.int t), some (.int x4), some (.int x7)], [(.int g), (.int x11), (.ref 86), (.int x7)])) (w1 := w) rfl rfl ?_
            refine s_i (pc1 := 127) (ls1 := [some (.ref 65), some (.int more), some (.int g), some (.int t), some (.int x4), some (.int x7)]) (st1 := [(.ref 86), (.int x7)]) rfl rfl fun x13 e14 => ?_
            have e14 : x13 = x11 * g := e14
            have e14t : x13.toInt = 36 * g.toInt := by rw [e14, n_mul (by rw [e12t]; omega) (by rw [e12t]; omega), e12t]
            refine aw_step (f1 := (128, [some (.ref 65), some (.int more), some (.int g), some (.int t), some (.int x4), some (.int x7)], [(.int t), (.int x13), (.ref 86), (.int x7)])) (w1 := w) rfl rfl ?_
            refine s_i (pc1 := 129) (ls1 := [some (.ref 65), some (.int more), some (.int g), some (.int t), some (.int x4), some (.int x7)]) (st1 := [(.ref 86), (.int x7)]) rfl rfl fun x15 e16 => ?_
            have e16 : x15 = x13 + t := e16
            have e16t : x15.toInt = x13.toInt + t.toInt := by rw [e16]; exact n_add (by omega) (by omega)
            --
            refine s_ia J 130 rfl rfl rfl rfl (by omega) (by omega) fun x17 x17a x17b x17f => ?_
            have hr := rI_of x17f
            rw [show x15.toInt.toNat = 36 * g.toInt.toNat + t.toInt.toNat by omega] at hr
            refine s_ic 148 133 rfl rfl rfl (fun (h18 : x17.toInt ≤ x7.toInt) => ?_) (fun (h18 : ¬ (x17.toInt ≤ x7.toInt)) => ?_)
            · --
              refine aw_step (f1 := (151, [some (.ref 65), some (.int more), some (.int g), some (.int (t + Int32.ofInt 1)), some (.int x4), some (.int x7)], [])) (w1 := w) rfl rfl ?_
              obtain ⟨x19, x19e⟩ : ∃ z, z = (t + Int32.ofInt 1) := ⟨_, rfl⟩
              have x19t : x19.toInt = t.toInt + (1) := by rw [x19e]; exact n_add (y := Int32.ofInt (1)) (by show _ ≤ _ + (1 : Int); omega) (by show _ + (1 : Int) ≤ _; omega)
              rw [← x19e]
              refine aw_step (f1 := (58, [some (.ref 65), some (.int more), some (.int g), some (.int x19), some (.int x4), some (.int x7)], [])) (w1 := w) rfl rfl ?_
              exact ih w more x19 _ _ (by omega) (by omega) (by omega) J O GI (by
                rcases R with q | ⟨q1, q2, q3⟩
                · exact Or.inl q
                · refine Or.inr ⟨q1, q2, fun a b hab ha hb hne la lb => ?_⟩
                  by_cases e : (a : Int) = g.toInt ∧ (b : Int) = t.toInt
                  · have l1 := (O.ld (by decide) (by decide) g.toInt).mpr (e.1 ▸ la)
                    have l2 := (O.ld (by decide) (by decide) t.toInt).mpr (e.2 ▸ lb)
                    unfold ldM at l1 l2
                    first
                      | (exfalso; omega)
                      | (rw [show a = g.toInt.toNat by omega, show b = t.toInt.toNat by omega, hr, ge]; omega)
                  · exact q3 a b (by omega) ha hb hne la lb)
            · --
              refine aw_step (f1 := (134, [some (.ref 65), some (.int more), some (.int g), some (.int t), some (.int x4), some (.int x7)], [(.ref 65)])) (w1 := w) rfl rfl ?_
              refine s_gr 86 J 137 rfl rfl rfl rfl rfl rfl ?_
              refine s_i (pc1 := 139) (ls1 := [some (.ref 65), some (.int more), some (.int g), some (.int t), some (.int x4), some (.int x7)]) (st1 := [(.ref 86)]) rfl rfl fun x20 e21 => ?_
              have e21t : x20.toInt = 36 := by rw [e21]; rfl
              refine aw_step (f1 := (140, [some (.ref 65), some (.int more), some (.int g), some (.int t), some (.int x4), some (.int x7)], [(.int g), (.int x20), (.ref 86)])) (w1 := w) rfl rfl ?_
              refine s_i (pc1 := 141) (ls1 := [some (.ref 65), some (.int more), some (.int g), some (.int t), some (.int x4), some (.int x7)]) (st1 := [(.ref 86)]) rfl rfl fun x22 e23 => ?_
              have e23 : x22 = x20 * g := e23
              have e23t : x22.toInt = 36 * g.toInt := by rw [e23, n_mul (by rw [e21t]; omega) (by rw [e21t]; omega), e21t]
              refine aw_step (f1 := (142, [some (.ref 65), some (.int more), some (.int g), some (.int t), some (.int x4), some (.int x7)], [(.int t), (.int x22), (.ref 86)])) (w1 := w) rfl rfl ?_
              refine s_i (pc1 := 143) (ls1 := [some (.ref 65), some (.int more), some (.int g), some (.int t), some (.int x4), some (.int x7)]) (st1 := [(.ref 86)]) rfl rfl fun x24 e25 => ?_
              have e25 : x24 = x22 + t := e25
              have e25t : x24.toInt = x22.toInt + t.toInt := by rw [e25]; exact n_add (by omega) (by omega)
              refine aw_step (f1 := (145, [some (.ref 65), some (.int more), some (.int g), some (.int t), some (.int x4), some (.int x7)], [(.int x7), (.int x24), (.ref 86)])) (w1 := w) rfl rfl ?_
              --
              refine s_is J 146 rfl rfl rfl rfl (by omega) (by omega) (by omega) (by omega) fun w26 J27 w26e => ?_
              refine s_i (pc1 := 147) (ls1 := [some (.ref 65), some (.int more), some (.int g), some (.int t), some (.int x4), some (.int x7)]) (st1 := []) rfl rfl fun x28 e29 => ?_
              have e29t : x28.toInt = 1 := by rw [e29]; rfl
              refine aw_step (f1 := (148, [some (.ref 65), some (.int x28), some (.int g), some (.int t), some (.int x4), some (.int x7)], [])) (w1 := w26) rfl rfl ?_
              refine aw_step (f1 := (151, [some (.ref 65), some (.int x28), some (.int g), some (.int (t + Int32.ofInt 1)), some (.int x4), some (.int x7)], [])) (w1 := w26) rfl rfl ?_
              obtain ⟨x30, x30e⟩ : ∃ z, z = (t + Int32.ofInt 1) := ⟨_, rfl⟩
              have x30t : x30.toInt = t.toInt + (1) := by rw [x30e]; exact n_add (y := Int32.ofInt (1)) (by show _ ≤ _ + (1 : Int); omega) (by show _ + (1 : Int) ≤ _; omega)
              rw [← x30e]
              refine aw_step (f1 := (58, [some (.ref 65), some (.int x28), some (.int g), some (.int x30), some (.int x4), some (.int x7)], [])) (w1 := w26) rfl rfl ?_
              have so := rI_st J.1 (p := 86) (j := x24.toInt.toNat) rfl (by omega) w26e
              rw [show x24.toInt.toNat = 36 * g.toInt.toNat + t.toInt.toNat by omega] at so
              have sl := sR_lt (j := 36 * g.toInt.toNat + t.toInt.toNat) (by omega) so.2.1 so.2.2 (by omega)
              have zo := so.1.sz (by decide)
              exact ih w26 x28 x30 _ _ (by omega) (by omega) (by omega) J27 (O.trans so.1) (GI.st (by omega) (by omega) (by omega) (by omega) so.2.1 so.2.2 (by rw [ge]; omega) (by omega)) (Or.inl ⟨by omega, by omega⟩)
        · --
          refine aw_step (f1 := (100, [some (.ref 65), some (.int more), some (.int g), some (.int t), some (.int x4), o5], [(.ref 65)])) (w1 := w) rfl rfl ?_
          refine aw_step (f1 := (101, [some (.ref 65), some (.int more), some (.int g), some (.int t), some (.int x4), o5], [(.int g), (.ref 65)])) (w1 := w) rfl rfl ?_
          refine aw_step (f1 := (102, [some (.ref 65), some (.int more), some (.int g), some (.int t), some (.int x4), o5], [(.int t), (.int g), (.ref 65)])) (w1 := w) rfl rfl ?_
          refine s_cv (z := 174) (p := 65) (as := [(.int g), (.int t)]) (st1 := []) J 105 rfl rfl rfl rfl rfl rfl rfl rfl (Nat.le_of_ble_eq_true rfl) (Nat.le_of_ble_eq_true rfl) (q_bestFrom g t ⟨by omega, by omega⟩ ⟨by omega, by omega⟩ J.1) ?_
          rintro _ _ ⟨rfl, x31, rfl, x31t⟩
          refine ⟨rfl, ?_⟩
          show aw none _ 175 _ (105, [some (.ref 65), some (.int more), some (.int g), some (.int t), some (.int x4), o5], [(.int x31)]) w
          have x31b := bs_b (r := rI w 86) (x := rL w 74 g.toInt.toNat) (y := rL w 75 t.toInt.toNat) (g := g.toInt.toNat) (t := t.toInt.toNat) (sz := (szM w).toNat) (rds_b J.1) (by omega) (by have := szM_in J.1; omega)
          refine aw_step (f1 := (110, [some (.ref 65), some (.int more), some (.int g), some (.int t), some (.int x4), o5], [(.int x31)])) (w1 := w) rfl rfl ?_
          refine aw_step (f1 := (112, [some (.ref 65), some (.int more), some (.int g), some (.int t), some (.int x4), some (.int x31)], [])) (w1 := w) rfl rfl ?_
          refine aw_step (f1 := (114, [some (.ref 65), some (.int more), some (.int g), some (.int t), some (.int x4), some (.int x31)], [(.int x4)])) (w1 := w) rfl rfl ?_
          refine s_if 148 117 rfl rfl rfl (fun (h32 : x4.toInt = 0) => ?_) (fun (h32 : ¬ (x4.toInt = 0)) => ?_)
          · --
            refine aw_step (f1 := (151, [some (.ref 65), some (.int more), some (.int g), some (.int (t + Int32.ofInt 1)), some (.int x4), some (.int x31)], [])) (w1 := w) rfl rfl ?_
            obtain ⟨x33, x33e⟩ : ∃ z, z = (t + Int32.ofInt 1) := ⟨_, rfl⟩
            have x33t : x33.toInt = t.toInt + (1) := by rw [x33e]; exact n_add (y := Int32.ofInt (1)) (by show _ ≤ _ + (1 : Int); omega) (by show _ + (1 : Int) ≤ _; omega)
            rw [← x33e]
            refine aw_step (f1 := (58, [some (.ref 65), some (.int more), some (.int g), some (.int x33), some (.int x4), some (.int x31)], [])) (w1 := w) rfl rfl ?_
            exact ih w more x33 _ _ (by omega) (by omega) (by omega) J O GI (by
              rcases R with q | ⟨q1, q2, q3⟩
              · exact Or.inl q
              · refine Or.inr ⟨q1, q2, fun a b hab ha hb hne la lb => ?_⟩
                by_cases e : (a : Int) = g.toInt ∧ (b : Int) = t.toInt
                · have l1 := (O.ld (by decide) (by decide) g.toInt).mpr (e.1 ▸ la)
                  have l2 := (O.ld (by decide) (by decide) t.toInt).mpr (e.2 ▸ lb)
                  unfold ldM at l1 l2
                  first
                    | (exfalso; omega)
                    | (rw [show a = g.toInt.toNat by omega, show b = t.toInt.toNat by omega, hr, ge]; omega)
                · exact q3 a b (by omega) ha hb hne la lb)
          · --
            refine aw_step (f1 := (119, [some (.ref 65), some (.int more), some (.int g), some (.int t), some (.int x4), some (.int x31)], [(.int x31)])) (w1 := w) rfl rfl ?_
            refine aw_step (f1 := (120, [some (.ref 65), some (.int more), some (.int g), some (.int t), some (.int x4), some (.int x31)], [(.ref 65), (.int x31)])) (w1 := w) rfl rfl ?_
            refine s_gr 86 J 123 rfl rfl rfl rfl rfl rfl ?_
            refine s_i (pc1 := 125) (ls1 := [some (.ref 65), some (.int more), some (.int g), some (.int t), some (.int x4), some (.int x31)]) (st1 := [(.ref 86), (.int x31)]) rfl rfl fun x34 e35 => ?_
            have e35t : x34.toInt = 36 := by rw [e35]; rfl
            refine aw_step (f1 := (126, [some (.ref 65), some (.int more), some (.int g), some (.int t), some (.int x4), some (.int x31)], [(.int g), (.int x34), (.ref 86), (.int x31)])) (w1 := w) rfl rfl ?_
            refine s_i (pc1 := 127) (ls1 := [some (.ref 65), some (.int more), some (.int g), some (.int t), some (.int x4), some (.int x31)]) (st1 := [(.ref 86), (.int x31)]) rfl rfl fun x36 e37 => ?_
            have e37 : x36 = x34 * g := e37
            have e37t : x36.toInt = 36 * g.toInt := by rw [e37, n_mul (by rw [e35t]; omega) (by rw [e35t]; omega), e35t]
            refine aw_step (f1 := (128, [some (.ref 65), some (.int more), some (.int g), some (.int t), some (.int x4), some (.int x31)], [(.int t), (.int x36), (.ref 86), (.int x31)])) (w1 := w) rfl rfl ?_
            refine s_i (pc1 := 129) (ls1 := [some (.ref 65), some (.int more), some (.int g), some (.int t), some (.int x4), some (.int x31)]) (st1 := [(.ref 86), (.int x31)]) rfl rfl fun x38 e39 => ?_
            have e39 : x38 = x36 + t := e39
            have e39t : x38.toInt = x36.toInt + t.toInt := by rw [e39]; exact n_add (by omega) (by omega)
            --
            refine s_ia J 130 rfl rfl rfl rfl (by omega) (by omega) fun x40 x40a x40b x40f => ?_
            have hr := rI_of x40f
            rw [show x38.toInt.toNat = 36 * g.toInt.toNat + t.toInt.toNat by omega] at hr
            refine s_ic 148 133 rfl rfl rfl (fun (h41 : x40.toInt ≤ x31.toInt) => ?_) (fun (h41 : ¬ (x40.toInt ≤ x31.toInt)) => ?_)
            · --
              refine aw_step (f1 := (151, [some (.ref 65), some (.int more), some (.int g), some (.int (t + Int32.ofInt 1)), some (.int x4), some (.int x31)], [])) (w1 := w) rfl rfl ?_
              obtain ⟨x42, x42e⟩ : ∃ z, z = (t + Int32.ofInt 1) := ⟨_, rfl⟩
              have x42t : x42.toInt = t.toInt + (1) := by rw [x42e]; exact n_add (y := Int32.ofInt (1)) (by show _ ≤ _ + (1 : Int); omega) (by show _ + (1 : Int) ≤ _; omega)
              rw [← x42e]
              refine aw_step (f1 := (58, [some (.ref 65), some (.int more), some (.int g), some (.int x42), some (.int x4), some (.int x31)], [])) (w1 := w) rfl rfl ?_
              exact ih w more x42 _ _ (by omega) (by omega) (by omega) J O GI (by
                rcases R with q | ⟨q1, q2, q3⟩
                · exact Or.inl q
                · refine Or.inr ⟨q1, q2, fun a b hab ha hb hne la lb => ?_⟩
                  by_cases e : (a : Int) = g.toInt ∧ (b : Int) = t.toInt
                  · have l1 := (O.ld (by decide) (by decide) g.toInt).mpr (e.1 ▸ la)
                    have l2 := (O.ld (by decide) (by decide) t.toInt).mpr (e.2 ▸ lb)
                    unfold ldM at l1 l2
                    first
                      | (exfalso; omega)
                      | (rw [show a = g.toInt.toNat by omega, show b = t.toInt.toNat by omega, hr, ge]; omega)
                  · exact q3 a b (by omega) ha hb hne la lb)
            · --
              refine aw_step (f1 := (134, [some (.ref 65), some (.int more), some (.int g), some (.int t), some (.int x4), some (.int x31)], [(.ref 65)])) (w1 := w) rfl rfl ?_
              refine s_gr 86 J 137 rfl rfl rfl rfl rfl rfl ?_
              refine s_i (pc1 := 139) (ls1 := [some (.ref 65), some (.int more), some (.int g), some (.int t), some (.int x4), some (.int x31)]) (st1 := [(.ref 86)]) rfl rfl fun x43 e44 => ?_
              have e44t : x43.toInt = 36 := by rw [e44]; rfl
              refine aw_step (f1 := (140, [some (.ref 65), some (.int more), some (.int g), some (.int t), some (.int x4), some (.int x31)], [(.int g), (.int x43), (.ref 86)])) (w1 := w) rfl rfl ?_
              refine s_i (pc1 := 141) (ls1 := [some (.ref 65), some (.int more), some (.int g), some (.int t), some (.int x4), some (.int x31)]) (st1 := [(.ref 86)]) rfl rfl fun x45 e46 => ?_
              have e46 : x45 = x43 * g := e46
              have e46t : x45.toInt = 36 * g.toInt := by rw [e46, n_mul (by rw [e44t]; omega) (by rw [e44t]; omega), e44t]
              refine aw_step (f1 := (142, [some (.ref 65), some (.int more), some (.int g), some (.int t), some (.int x4), some (.int x31)], [(.int t), (.int x45), (.ref 86)])) (w1 := w) rfl rfl ?_
              refine s_i (pc1 := 143) (ls1 := [some (.ref 65), some (.int more), some (.int g), some (.int t), some (.int x4), some (.int x31)]) (st1 := [(.ref 86)]) rfl rfl fun x47 e48 => ?_
              have e48 : x47 = x45 + t := e48
              have e48t : x47.toInt = x45.toInt + t.toInt := by rw [e48]; exact n_add (by omega) (by omega)
              refine aw_step (f1 := (145, [some (.ref 65), some (.int more), some (.int g), some (.int t), some (.int x4), some (.int x31)], [(.int x31), (.int x47), (.ref 86)])) (w1 := w) rfl rfl ?_
              --
              refine s_is J 146 rfl rfl rfl rfl (by omega) (by omega) (by omega) (by omega) fun w49 J50 w49e => ?_
              refine s_i (pc1 := 147) (ls1 := [some (.ref 65), some (.int more), some (.int g), some (.int t), some (.int x4), some (.int x31)]) (st1 := []) rfl rfl fun x51 e52 => ?_
              have e52t : x51.toInt = 1 := by rw [e52]; rfl
              refine aw_step (f1 := (148, [some (.ref 65), some (.int x51), some (.int g), some (.int t), some (.int x4), some (.int x31)], [])) (w1 := w49) rfl rfl ?_
              refine aw_step (f1 := (151, [some (.ref 65), some (.int x51), some (.int g), some (.int (t + Int32.ofInt 1)), some (.int x4), some (.int x31)], [])) (w1 := w49) rfl rfl ?_
              obtain ⟨x53, x53e⟩ : ∃ z, z = (t + Int32.ofInt 1) := ⟨_, rfl⟩
              have x53t : x53.toInt = t.toInt + (1) := by rw [x53e]; exact n_add (y := Int32.ofInt (1)) (by show _ ≤ _ + (1 : Int); omega) (by show _ + (1 : Int) ≤ _; omega)
              rw [← x53e]
              refine aw_step (f1 := (58, [some (.ref 65), some (.int x51), some (.int g), some (.int x53), some (.int x4), some (.int x31)], [])) (w1 := w49) rfl rfl ?_
              have so := rI_st J.1 (p := 86) (j := x47.toInt.toNat) rfl (by omega) w49e
              rw [show x47.toInt.toNat = 36 * g.toInt.toNat + t.toInt.toNat by omega] at so
              have sl := sR_lt (j := 36 * g.toInt.toNat + t.toInt.toNat) (by omega) so.2.1 so.2.2 (by omega)
              have zo := so.1.sz (by decide)
              exact ih w49 x51 x53 _ _ (by omega) (by omega) (by omega) J50 (O.trans so.1) (GI.st (by omega) (by omega) (by omega) (by omega) so.2.1 so.2.2 (by rw [ge]; omega) (by omega)) (Or.inl ⟨by omega, by omega⟩)
      · --
        refine aw_step (f1 := (72, [some (.ref 65), some (.int more), some (.int g), some (.int t), o4, o5], [(.ref 65)])) (w1 := w) rfl rfl ?_
        refine aw_step (f1 := (73, [some (.ref 65), some (.int more), some (.int g), some (.int t), o4, o5], [(.int g), (.ref 65)])) (w1 := w) rfl rfl ?_
        refine s_cv (z := 115) (p := 65) (as := [(.int g)]) (st1 := []) J 76 rfl rfl rfl rfl rfl rfl rfl rfl (Nat.le_of_ble_eq_true rfl) (Nat.le_of_ble_eq_true rfl) (q_isLand g J.1) ?_
        rintro _ _ ⟨rfl, x54, rfl, x54t⟩
        refine ⟨rfl, ?_⟩
        show aw none _ 175 _ (76, [some (.ref 65), some (.int more), some (.int g), some (.int t), o4, o5], [(.int x54)]) w
        have x54s := szM_in J.1
        refine s_if 91 79 rfl rfl rfl (fun (h55 : x54.toInt = 0) => ?_) (fun (h55 : ¬ (x54.toInt = 0)) => ?_)
        · --
          refine s_i (pc1 := 92) (ls1 := [some (.ref 65), some (.int more), some (.int g), some (.int t), o4, o5]) (st1 := []) rfl rfl fun x56 e57 => ?_
          have e57t : x56.toInt = 0 := by rw [e57]; rfl
          refine aw_step (f1 := (94, [some (.ref 65), some (.int more), some (.int g), some (.int t), some (.int x56), o5], [])) (w1 := w) rfl rfl ?_
          refine aw_step (f1 := (96, [some (.ref 65), some (.int more), some (.int g), some (.int t), some (.int x56), o5], [(.int x56)])) (w1 := w) rfl rfl ?_
          refine s_if 108 99 rfl rfl rfl (fun (h58 : x56.toInt = 0) => ?_) (fun (h58 : ¬ (x56.toInt = 0)) => ?_)
          · --
            refine s_i (pc1 := 110) (ls1 := [some (.ref 65), some (.int more), some (.int g), some (.int t), some (.int x56), o5]) (st1 := []) rfl rfl fun x59 e60 => ?_
            have e60t : x59.toInt = 100000 := by rw [e60]; rfl
            refine aw_step (f1 := (112, [some (.ref 65), some (.int more), some (.int g), some (.int t), some (.int x56), some (.int x59)], [])) (w1 := w) rfl rfl ?_
            refine aw_step (f1 := (114, [some (.ref 65), some (.int more), some (.int g), some (.int t), some (.int x56), some (.int x59)], [(.int x56)])) (w1 := w) rfl rfl ?_
            refine s_if 148 117 rfl rfl rfl (fun (h61 : x56.toInt = 0) => ?_) (fun (h61 : ¬ (x56.toInt = 0)) => ?_)
            · --
              refine aw_step (f1 := (151, [some (.ref 65), some (.int more), some (.int g), some (.int (t + Int32.ofInt 1)), some (.int x56), some (.int x59)], [])) (w1 := w) rfl rfl ?_
              obtain ⟨x62, x62e⟩ : ∃ z, z = (t + Int32.ofInt 1) := ⟨_, rfl⟩
              have x62t : x62.toInt = t.toInt + (1) := by rw [x62e]; exact n_add (y := Int32.ofInt (1)) (by show _ ≤ _ + (1 : Int); omega) (by show _ + (1 : Int) ≤ _; omega)
              rw [← x62e]
              refine aw_step (f1 := (58, [some (.ref 65), some (.int more), some (.int g), some (.int x62), some (.int x56), some (.int x59)], [])) (w1 := w) rfl rfl ?_
              exact ih w more x62 _ _ (by omega) (by omega) (by omega) J O GI (by
                rcases R with q | ⟨q1, q2, q3⟩
                · exact Or.inl q
                · refine Or.inr ⟨q1, q2, fun a b hab ha hb hne la lb => ?_⟩
                  by_cases e : (a : Int) = g.toInt ∧ (b : Int) = t.toInt
                  · have l1 := (O.ld (by decide) (by decide) g.toInt).mpr (e.1 ▸ la)
                    have l2 := (O.ld (by decide) (by decide) t.toInt).mpr (e.2 ▸ lb)
                    unfold ldM at l1 l2
                    first
                      | (exfalso; omega)
                      | (rw [show a = g.toInt.toNat by omega, show b = t.toInt.toNat by omega, hr, ge]; omega)
                  · exact q3 a b (by omega) ha hb hne la lb)
            · --
              refine aw_step (f1 := (119, [some (.ref 65), some (.int more), some (.int g), some (.int t), some (.int x56), some (.int x59)], [(.int x59)])) (w1 := w) rfl rfl ?_
              refine aw_step (f1 := (120, [some (.ref 65), some (.int more), some (.int g), some (.int t), some (.int x56), some (.int x59)], [(.ref 65), (.int x59)])) (w1 := w) rfl rfl ?_
              refine s_gr 86 J 123 rfl rfl rfl rfl rfl rfl ?_
              refine s_i (pc1 := 125) (ls1 := [some (.ref 65), some (.int more), some (.int g), some (.int t), some (.int x56), some (.int x59)]) (st1 := [(.ref 86), (.int x59)]) rfl rfl fun x63 e64 => ?_
              have e64t : x63.toInt = 36 := by rw [e64]; rfl
              refine aw_step (f1 := (126, [some (.ref 65), some (.int more), some (.int g), some (.int t), some (.int x56), some (.int x59)], [(.int g), (.int x63), (.ref 86), (.int x59)])) (w1 := w) rfl rfl ?_
              refine s_i (pc1 := 127) (ls1 := [some (.ref 65), some (.int more), some (.int g), some (.int t), some (.int x56), some (.int x59)]) (st1 := [(.ref 86), (.int x59)]) rfl rfl fun x65 e66 => ?_
              have e66 : x65 = x63 * g := e66
              have e66t : x65.toInt = 36 * g.toInt := by rw [e66, n_mul (by rw [e64t]; omega) (by rw [e64t]; omega), e64t]
              refine aw_step (f1 := (128, [some (.ref 65), some (.int more), some (.int g), some (.int t), some (.int x56), some (.int x59)], [(.int t), (.int x65), (.ref 86), (.int x59)])) (w1 := w) rfl rfl ?_
              refine s_i (pc1 := 129) (ls1 := [some (.ref 65), some (.int more), some (.int g), some (.int t), some (.int x56), some (.int x59)]) (st1 := [(.ref 86), (.int x59)]) rfl rfl fun x67 e68 => ?_
              have e68 : x67 = x65 + t := e68
              have e68t : x67.toInt = x65.toInt + t.toInt := by rw [e68]; exact n_add (by omega) (by omega)
              --
              refine s_ia J 130 rfl rfl rfl rfl (by omega) (by omega) fun x69 x69a x69b x69f => ?_
              have hr := rI_of x69f
              rw [show x67.toInt.toNat = 36 * g.toInt.toNat + t.toInt.toNat by omega] at hr
              refine s_ic 148 133 rfl rfl rfl (fun (h70 : x69.toInt ≤ x59.toInt) => ?_) (fun (h70 : ¬ (x69.toInt ≤ x59.toInt)) => ?_)
              · --
                refine aw_step (f1 := (151, [some (.ref 65), some (.int more), some (.int g), some (.int (t + Int32.ofInt 1)), some (.int x56), some (.int x59)], [])) (w1 := w) rfl rfl ?_
                obtain ⟨x71, x71e⟩ : ∃ z, z = (t + Int32.ofInt 1) := ⟨_, rfl⟩
                have x71t : x71.toInt = t.toInt + (1) := by rw [x71e]; exact n_add (y := Int32.ofInt (1)) (by show _ ≤ _ + (1 : Int); omega) (by show _ + (1 : Int) ≤ _; omega)
                rw [← x71e]
                refine aw_step (f1 := (58, [some (.ref 65), some (.int more), some (.int g), some (.int x71), some (.int x56), some (.int x59)], [])) (w1 := w) rfl rfl ?_
                exact ih w more x71 _ _ (by omega) (by omega) (by omega) J O GI (by
                  rcases R with q | ⟨q1, q2, q3⟩
                  · exact Or.inl q
                  · refine Or.inr ⟨q1, q2, fun a b hab ha hb hne la lb => ?_⟩
                    by_cases e : (a : Int) = g.toInt ∧ (b : Int) = t.toInt
                    · have l1 := (O.ld (by decide) (by decide) g.toInt).mpr (e.1 ▸ la)
                      have l2 := (O.ld (by decide) (by decide) t.toInt).mpr (e.2 ▸ lb)
                      unfold ldM at l1 l2
                      first
                        | (exfalso; omega)
                        | (rw [show a = g.toInt.toNat by omega, show b = t.toInt.toNat by omega, hr, ge]; omega)
                    · exact q3 a b (by omega) ha hb hne la lb)
              · --
                refine aw_step (f1 := (134, [some (.ref 65), some (.int more), some (.int g), some (.int t), some (.int x56), some (.int x59)], [(.ref 65)])) (w1 := w) rfl rfl ?_
                refine s_gr 86 J 137 rfl rfl rfl rfl rfl rfl ?_
                refine s_i (pc1 := 139) (ls1 := [some (.ref 65), some (.int more), some (.int g), some (.int t), some (.int x56), some (.int x59)]) (st1 := [(.ref 86)]) rfl rfl fun x72 e73 => ?_
                have e73t : x72.toInt = 36 := by rw [e73]; rfl
                refine aw_step (f1 := (140, [some (.ref 65), some (.int more), some (.int g), some (.int t), some (.int x56), some (.int x59)], [(.int g), (.int x72), (.ref 86)])) (w1 := w) rfl rfl ?_
                refine s_i (pc1 := 141) (ls1 := [some (.ref 65), some (.int more), some (.int g), some (.int t), some (.int x56), some (.int x59)]) (st1 := [(.ref 86)]) rfl rfl fun x74 e75 => ?_
                have e75 : x74 = x72 * g := e75
                have e75t : x74.toInt = 36 * g.toInt := by rw [e75, n_mul (by rw [e73t]; omega) (by rw [e73t]; omega), e73t]
                refine aw_step (f1 := (142, [some (.ref 65), some (.int more), some (.int g), some (.int t), some (.int x56), some (.int x59)], [(.int t), (.int x74), (.ref 86)])) (w1 := w) rfl rfl ?_
                refine s_i (pc1 := 143) (ls1 := [some (.ref 65), some (.int more), some (.int g), some (.int t), some (.int x56), some (.int x59)]) (st1 := [(.ref 86)]) rfl rfl fun x76 e77 => ?_
                have e77 : x76 = x74 + t := e77
                have e77t : x76.toInt = x74.toInt + t.toInt := by rw [e77]; exact n_add (by omega) (by omega)
                refine aw_step (f1 := (145, [some (.ref 65), some (.int more), some (.int g), some (.int t), some (.int x56), some (.int x59)], [(.int x59), (.int x76), (.ref 86)])) (w1 := w) rfl rfl ?_
                --
                refine s_is J 146 rfl rfl rfl rfl (by omega) (by omega) (by omega) (by omega) fun w78 J79 w78e => ?_
                refine s_i (pc1 := 147) (ls1 := [some (.ref 65), some (.int more), some (.int g), some (.int t), some (.int x56), some (.int x59)]) (st1 := []) rfl rfl fun x80 e81 => ?_
                have e81t : x80.toInt = 1 := by rw [e81]; rfl
                refine aw_step (f1 := (148, [some (.ref 65), some (.int x80), some (.int g), some (.int t), some (.int x56), some (.int x59)], [])) (w1 := w78) rfl rfl ?_
                refine aw_step (f1 := (151, [some (.ref 65), some (.int x80), some (.int g), some (.int (t + Int32.ofInt 1)), some (.int x56), some (.int x59)], [])) (w1 := w78) rfl rfl ?_
                obtain ⟨x82, x82e⟩ : ∃ z, z = (t + Int32.ofInt 1) := ⟨_, rfl⟩
                have x82t : x82.toInt = t.toInt + (1) := by rw [x82e]; exact n_add (y := Int32.ofInt (1)) (by show _ ≤ _ + (1 : Int); omega) (by show _ + (1 : Int) ≤ _; omega)
                rw [← x82e]
                refine aw_step (f1 := (58, [some (.ref 65), some (.int x80), some (.int g), some (.int x82), some (.int x56), some (.int x59)], [])) (w1 := w78) rfl rfl ?_
                have so := rI_st J.1 (p := 86) (j := x76.toInt.toNat) rfl (by omega) w78e
                rw [show x76.toInt.toNat = 36 * g.toInt.toNat + t.toInt.toNat by omega] at so
                have sl := sR_lt (j := 36 * g.toInt.toNat + t.toInt.toNat) (by omega) so.2.1 so.2.2 (by omega)
                have zo := so.1.sz (by decide)
                exact ih w78 x80 x82 _ _ (by omega) (by omega) (by omega) J79 (O.trans so.1) (GI.st (by omega) (by omega) (by omega) (by omega) so.2.1 so.2.2 (by rw [ge]; omega) (by omega)) (Or.inl ⟨by omega, by omega⟩)
          · --
            refine aw_step (f1 := (100, [some (.ref 65), some (.int more), some (.int g), some (.int t), some (.int x56), o5], [(.ref 65)])) (w1 := w) rfl rfl ?_
            refine aw_step (f1 := (101, [some (.ref 65), some (.int more), some (.int g), some (.int t), some (.int x56), o5], [(.int g), (.ref 65)])) (w1 := w) rfl rfl ?_
            refine aw_step (f1 := (102, [some (.ref 65), some (.int more), some (.int g), some (.int t), some (.int x56), o5], [(.int t), (.int g), (.ref 65)])) (w1 := w) rfl rfl ?_
            refine s_cv (z := 174) (p := 65) (as := [(.int g), (.int t)]) (st1 := []) J 105 rfl rfl rfl rfl rfl rfl rfl rfl (Nat.le_of_ble_eq_true rfl) (Nat.le_of_ble_eq_true rfl) (q_bestFrom g t ⟨by omega, by omega⟩ ⟨by omega, by omega⟩ J.1) ?_
            rintro _ _ ⟨rfl, x83, rfl, x83t⟩
            refine ⟨rfl, ?_⟩
            show aw none _ 175 _ (105, [some (.ref 65), some (.int more), some (.int g), some (.int t), some (.int x56), o5], [(.int x83)]) w
            have x83b := bs_b (r := rI w 86) (x := rL w 74 g.toInt.toNat) (y := rL w 75 t.toInt.toNat) (g := g.toInt.toNat) (t := t.toInt.toNat) (sz := (szM w).toNat) (rds_b J.1) (by omega) (by have := szM_in J.1; omega)
            refine aw_step (f1 := (110, [some (.ref 65), some (.int more), some (.int g), some (.int t), some (.int x56), o5], [(.int x83)])) (w1 := w) rfl rfl ?_
            refine aw_step (f1 := (112, [some (.ref 65), some (.int more), some (.int g), some (.int t), some (.int x56), some (.int x83)], [])) (w1 := w) rfl rfl ?_
            refine aw_step (f1 := (114, [some (.ref 65), some (.int more), some (.int g), some (.int t), some (.int x56), some (.int x83)], [(.int x56)])) (w1 := w) rfl rfl ?_
            refine s_if 148 117 rfl rfl rfl (fun (h84 : x56.toInt = 0) => ?_) (fun (h84 : ¬ (x56.toInt = 0)) => ?_)
            · --
              refine aw_step (f1 := (151, [some (.ref 65), some (.int more), some (.int g), some (.int (t + Int32.ofInt 1)), some (.int x56), some (.int x83)], [])) (w1 := w) rfl rfl ?_
              obtain ⟨x85, x85e⟩ : ∃ z, z = (t + Int32.ofInt 1) := ⟨_, rfl⟩
              have x85t : x85.toInt = t.toInt + (1) := by rw [x85e]; exact n_add (y := Int32.ofInt (1)) (by show _ ≤ _ + (1 : Int); omega) (by show _ + (1 : Int) ≤ _; omega)
              rw [← x85e]
              refine aw_step (f1 := (58, [some (.ref 65), some (.int more), some (.int g), some (.int x85), some (.int x56), some (.int x83)], [])) (w1 := w) rfl rfl ?_
              exact ih w more x85 _ _ (by omega) (by omega) (by omega) J O GI (by
                rcases R with q | ⟨q1, q2, q3⟩
                · exact Or.inl q
                · refine Or.inr ⟨q1, q2, fun a b hab ha hb hne la lb => ?_⟩
                  by_cases e : (a : Int) = g.toInt ∧ (b : Int) = t.toInt
                  · have l1 := (O.ld (by decide) (by decide) g.toInt).mpr (e.1 ▸ la)
                    have l2 := (O.ld (by decide) (by decide) t.toInt).mpr (e.2 ▸ lb)
                    unfold ldM at l1 l2
                    first
                      | (exfalso; omega)
                      | (rw [show a = g.toInt.toNat by omega, show b = t.toInt.toNat by omega, hr, ge]; omega)
                  · exact q3 a b (by omega) ha hb hne la lb)
            · --
              refine aw_step (f1 := (119, [some (.ref 65), some (.int more), some (.int g), some (.int t), some (.int x56), some (.int x83)], [(.int x83)])) (w1 := w) rfl rfl ?_
              refine aw_step (f1 := (120, [some (.ref 65), some (.int more), some (.int g), some (.int t), some (.int x56), some (.int x83)], [(.ref 65), (.int x83)])) (w1 := w) rfl rfl ?_
              refine s_gr 86 J 123 rfl rfl rfl rfl rfl rfl ?_
              refine s_i (pc1 := 125) (ls1 := [some (.ref 65), some (.int more), some (.int g), some (.int t), some (.int x56), some (.int x83)]) (st1 := [(.ref 86), (.int x83)]) rfl rfl fun x86 e87 => ?_
              have e87t : x86.toInt = 36 := by rw [e87]; rfl
              refine aw_step (f1 := (126, [some (.ref 65), some (.int more), some (.int g), some (.int t), some (.int x56), some (.int x83)], [(.int g), (.int x86), (.ref 86), (.int x83)])) (w1 := w) rfl rfl ?_
              refine s_i (pc1 := 127) (ls1 := [some (.ref 65), some (.int more), some (.int g), some (.int t), some (.int x56), some (.int x83)]) (st1 := [(.ref 86), (.int x83)]) rfl rfl fun x88 e89 => ?_
              have e89 : x88 = x86 * g := e89
              have e89t : x88.toInt = 36 * g.toInt := by rw [e89, n_mul (by rw [e87t]; omega) (by rw [e87t]; omega), e87t]
              refine aw_step (f1 := (128, [some (.ref 65), some (.int more), some (.int g), some (.int t), some (.int x56), some (.int x83)], [(.int t), (.int x88), (.ref 86), (.int x83)])) (w1 := w) rfl rfl ?_
              refine s_i (pc1 := 129) (ls1 := [some (.ref 65), some (.int more), some (.int g), some (.int t), some (.int x56), some (.int x83)]) (st1 := [(.ref 86), (.int x83)]) rfl rfl fun x90 e91 => ?_
              have e91 : x90 = x88 + t := e91
              have e91t : x90.toInt = x88.toInt + t.toInt := by rw [e91]; exact n_add (by omega) (by omega)
              --
              refine s_ia J 130 rfl rfl rfl rfl (by omega) (by omega) fun x92 x92a x92b x92f => ?_
              have hr := rI_of x92f
              rw [show x90.toInt.toNat = 36 * g.toInt.toNat + t.toInt.toNat by omega] at hr
              refine s_ic 148 133 rfl rfl rfl (fun (h93 : x92.toInt ≤ x83.toInt) => ?_) (fun (h93 : ¬ (x92.toInt ≤ x83.toInt)) => ?_)
              · --
                refine aw_step (f1 := (151, [some (.ref 65), some (.int more), some (.int g), some (.int (t + Int32.ofInt 1)), some (.int x56), some (.int x83)], [])) (w1 := w) rfl rfl ?_
                obtain ⟨x94, x94e⟩ : ∃ z, z = (t + Int32.ofInt 1) := ⟨_, rfl⟩
                have x94t : x94.toInt = t.toInt + (1) := by rw [x94e]; exact n_add (y := Int32.ofInt (1)) (by show _ ≤ _ + (1 : Int); omega) (by show _ + (1 : Int) ≤ _; omega)
                rw [← x94e]
                refine aw_step (f1 := (58, [some (.ref 65), some (.int more), some (.int g), some (.int x94), some (.int x56), some (.int x83)], [])) (w1 := w) rfl rfl ?_
                exact ih w more x94 _ _ (by omega) (by omega) (by omega) J O GI (by
                  rcases R with q | ⟨q1, q2, q3⟩
                  · exact Or.inl q
                  · refine Or.inr ⟨q1, q2, fun a b hab ha hb hne la lb => ?_⟩
                    by_cases e : (a : Int) = g.toInt ∧ (b : Int) = t.toInt
                    · have l1 := (O.ld (by decide) (by decide) g.toInt).mpr (e.1 ▸ la)
                      have l2 := (O.ld (by decide) (by decide) t.toInt).mpr (e.2 ▸ lb)
                      unfold ldM at l1 l2
                      first
                        | (exfalso; omega)
                        | (rw [show a = g.toInt.toNat by omega, show b = t.toInt.toNat by omega, hr, ge]; omega)
                    · exact q3 a b (by omega) ha hb hne la lb)
              · --
                refine aw_step (f1 := (134, [some (.ref 65), some (.int more), some (.int g), some (.int t), some (.int x56), some (.int x83)], [(.ref 65)])) (w1 := w) rfl rfl ?_
                refine s_gr 86 J 137 rfl rfl rfl rfl rfl rfl ?_
                refine s_i (pc1 := 139) (ls1 := [some (.ref 65), some (.int more), some (.int g), some (.int t), some (.int x56), some (.int x83)]) (st1 := [(.ref 86)]) rfl rfl fun x95 e96 => ?_
                have e96t : x95.toInt = 36 := by rw [e96]; rfl
                refine aw_step (f1 := (140, [some (.ref 65), some (.int more), some (.int g), some (.int t), some (.int x56), some (.int x83)], [(.int g), (.int x95), (.ref 86)])) (w1 := w) rfl rfl ?_
                refine s_i (pc1 := 141) (ls1 := [some (.ref 65), some (.int more), some (.int g), some (.int t), some (.int x56), some (.int x83)]) (st1 := [(.ref 86)]) rfl rfl fun x97 e98 => ?_
                have e98 : x97 = x95 * g := e98
                have e98t : x97.toInt = 36 * g.toInt := by rw [e98, n_mul (by rw [e96t]; omega) (by rw [e96t]; omega), e96t]
                refine aw_step (f1 := (142, [some (.ref 65), some (.int more), some (.int g), some (.int t), some (.int x56), some (.int x83)], [(.int t), (.int x97), (.ref 86)])) (w1 := w) rfl rfl ?_
                refine s_i (pc1 := 143) (ls1 := [some (.ref 65), some (.int more), some (.int g), some (.int t), some (.int x56), some (.int x83)]) (st1 := [(.ref 86)]) rfl rfl fun x99 e100 => ?_
                have e100 : x99 = x97 + t := e100
                have e100t : x99.toInt = x97.toInt + t.toInt := by rw [e100]; exact n_add (by omega) (by omega)
                refine aw_step (f1 := (145, [some (.ref 65), some (.int more), some (.int g), some (.int t), some (.int x56), some (.int x83)], [(.int x83), (.int x99), (.ref 86)])) (w1 := w) rfl rfl ?_
                --
                refine s_is J 146 rfl rfl rfl rfl (by omega) (by omega) (by omega) (by omega) fun w101 J102 w101e => ?_
                refine s_i (pc1 := 147) (ls1 := [some (.ref 65), some (.int more), some (.int g), some (.int t), some (.int x56), some (.int x83)]) (st1 := []) rfl rfl fun x103 e104 => ?_
                have e104t : x103.toInt = 1 := by rw [e104]; rfl
                refine aw_step (f1 := (148, [some (.ref 65), some (.int x103), some (.int g), some (.int t), some (.int x56), some (.int x83)], [])) (w1 := w101) rfl rfl ?_
                refine aw_step (f1 := (151, [some (.ref 65), some (.int x103), some (.int g), some (.int (t + Int32.ofInt 1)), some (.int x56), some (.int x83)], [])) (w1 := w101) rfl rfl ?_
                obtain ⟨x105, x105e⟩ : ∃ z, z = (t + Int32.ofInt 1) := ⟨_, rfl⟩
                have x105t : x105.toInt = t.toInt + (1) := by rw [x105e]; exact n_add (y := Int32.ofInt (1)) (by show _ ≤ _ + (1 : Int); omega) (by show _ + (1 : Int) ≤ _; omega)
                rw [← x105e]
                refine aw_step (f1 := (58, [some (.ref 65), some (.int x103), some (.int g), some (.int x105), some (.int x56), some (.int x83)], [])) (w1 := w101) rfl rfl ?_
                have so := rI_st J.1 (p := 86) (j := x99.toInt.toNat) rfl (by omega) w101e
                rw [show x99.toInt.toNat = 36 * g.toInt.toNat + t.toInt.toNat by omega] at so
                have sl := sR_lt (j := 36 * g.toInt.toNat + t.toInt.toNat) (by omega) so.2.1 so.2.2 (by omega)
                have zo := so.1.sz (by decide)
                exact ih w101 x103 x105 _ _ (by omega) (by omega) (by omega) J102 (O.trans so.1) (GI.st (by omega) (by omega) (by omega) (by omega) so.2.1 so.2.2 (by rw [ge]; omega) (by omega)) (Or.inl ⟨by omega, by omega⟩)
        · --
          refine aw_step (f1 := (80, [some (.ref 65), some (.int more), some (.int g), some (.int t), o4, o5], [(.ref 65)])) (w1 := w) rfl rfl ?_
          refine aw_step (f1 := (81, [some (.ref 65), some (.int more), some (.int g), some (.int t), o4, o5], [(.int t), (.ref 65)])) (w1 := w) rfl rfl ?_
          refine s_cv (z := 115) (p := 65) (as := [(.int t)]) (st1 := []) J 84 rfl rfl rfl rfl rfl rfl rfl rfl (Nat.le_of_ble_eq_true rfl) (Nat.le_of_ble_eq_true rfl) (q_isLand t J.1) ?_
          rintro _ _ ⟨rfl, x106, rfl, x106t⟩
          refine ⟨rfl, ?_⟩
          show aw none _ 175 _ (84, [some (.ref 65), some (.int more), some (.int g), some (.int t), o4, o5], [(.int x106)]) w
          have x106s := szM_in J.1
          refine s_if 91 87 rfl rfl rfl (fun (h107 : x106.toInt = 0) => ?_) (fun (h107 : ¬ (x106.toInt = 0)) => ?_)
          · --
            refine s_i (pc1 := 92) (ls1 := [some (.ref 65), some (.int more), some (.int g), some (.int t), o4, o5]) (st1 := []) rfl rfl fun x108 e109 => ?_
            have e109t : x108.toInt = 0 := by rw [e109]; rfl
            refine aw_step (f1 := (94, [some (.ref 65), some (.int more), some (.int g), some (.int t), some (.int x108), o5], [])) (w1 := w) rfl rfl ?_
            refine aw_step (f1 := (96, [some (.ref 65), some (.int more), some (.int g), some (.int t), some (.int x108), o5], [(.int x108)])) (w1 := w) rfl rfl ?_
            refine s_if 108 99 rfl rfl rfl (fun (h110 : x108.toInt = 0) => ?_) (fun (h110 : ¬ (x108.toInt = 0)) => ?_)
            · --
              refine s_i (pc1 := 110) (ls1 := [some (.ref 65), some (.int more), some (.int g), some (.int t), some (.int x108), o5]) (st1 := []) rfl rfl fun x111 e112 => ?_
              have e112t : x111.toInt = 100000 := by rw [e112]; rfl
              refine aw_step (f1 := (112, [some (.ref 65), some (.int more), some (.int g), some (.int t), some (.int x108), some (.int x111)], [])) (w1 := w) rfl rfl ?_
              refine aw_step (f1 := (114, [some (.ref 65), some (.int more), some (.int g), some (.int t), some (.int x108), some (.int x111)], [(.int x108)])) (w1 := w) rfl rfl ?_
              refine s_if 148 117 rfl rfl rfl (fun (h113 : x108.toInt = 0) => ?_) (fun (h113 : ¬ (x108.toInt = 0)) => ?_)
              · --
                refine aw_step (f1 := (151, [some (.ref 65), some (.int more), some (.int g), some (.int (t + Int32.ofInt 1)), some (.int x108), some (.int x111)], [])) (w1 := w) rfl rfl ?_
                obtain ⟨x114, x114e⟩ : ∃ z, z = (t + Int32.ofInt 1) := ⟨_, rfl⟩
                have x114t : x114.toInt = t.toInt + (1) := by rw [x114e]; exact n_add (y := Int32.ofInt (1)) (by show _ ≤ _ + (1 : Int); omega) (by show _ + (1 : Int) ≤ _; omega)
                rw [← x114e]
                refine aw_step (f1 := (58, [some (.ref 65), some (.int more), some (.int g), some (.int x114), some (.int x108), some (.int x111)], [])) (w1 := w) rfl rfl ?_
                exact ih w more x114 _ _ (by omega) (by omega) (by omega) J O GI (by
                  rcases R with q | ⟨q1, q2, q3⟩
                  · exact Or.inl q
                  · refine Or.inr ⟨q1, q2, fun a b hab ha hb hne la lb => ?_⟩
                    by_cases e : (a : Int) = g.toInt ∧ (b : Int) = t.toInt
                    · have l1 := (O.ld (by decide) (by decide) g.toInt).mpr (e.1 ▸ la)
                      have l2 := (O.ld (by decide) (by decide) t.toInt).mpr (e.2 ▸ lb)
                      unfold ldM at l1 l2
                      first
                        | (exfalso; omega)
                        | (rw [show a = g.toInt.toNat by omega, show b = t.toInt.toNat by omega, hr, ge]; omega)
                    · exact q3 a b (by omega) ha hb hne la lb)
              · --
                refine aw_step (f1 := (119, [some (.ref 65), some (.int more), some (.int g), some (.int t), some (.int x108), some (.int x111)], [(.int x111)])) (w1 := w) rfl rfl ?_
                refine aw_step (f1 := (120, [some (.ref 65), some (.int more), some (.int g), some (.int t), some (.int x108), some (.int x111)], [(.ref 65), (.int x111)])) (w1 := w) rfl rfl ?_
                refine s_gr 86 J 123 rfl rfl rfl rfl rfl rfl ?_
                refine s_i (pc1 := 125) (ls1 := [some (.ref 65), some (.int more), some (.int g), some (.int t), some (.int x108), some (.int x111)]) (st1 := [(.ref 86), (.int x111)]) rfl rfl fun x115 e116 => ?_
                have e116t : x115.toInt = 36 := by rw [e116]; rfl
                refine aw_step (f1 := (126, [some (.ref 65), some (.int more), some (.int g), some (.int t), some (.int x108), some (.int x111)], [(.int g), (.int x115), (.ref 86), (.int x111)])) (w1 := w) rfl rfl ?_
                refine s_i (pc1 := 127) (ls1 := [some (.ref 65), some (.int more), some (.int g), some (.int t), some (.int x108), some (.int x111)]) (st1 := [(.ref 86), (.int x111)]) rfl rfl fun x117 e118 => ?_
                have e118 : x117 = x115 * g := e118
                have e118t : x117.toInt = 36 * g.toInt := by rw [e118, n_mul (by rw [e116t]; omega) (by rw [e116t]; omega), e116t]
                refine aw_step (f1 := (128, [some (.ref 65), some (.int more), some (.int g), some (.int t), some (.int x108), some (.int x111)], [(.int t), (.int x117), (.ref 86), (.int x111)])) (w1 := w) rfl rfl ?_
                refine s_i (pc1 := 129) (ls1 := [some (.ref 65), some (.int more), some (.int g), some (.int t), some (.int x108), some (.int x111)]) (st1 := [(.ref 86), (.int x111)]) rfl rfl fun x119 e120 => ?_
                have e120 : x119 = x117 + t := e120
                have e120t : x119.toInt = x117.toInt + t.toInt := by rw [e120]; exact n_add (by omega) (by omega)
                --
                refine s_ia J 130 rfl rfl rfl rfl (by omega) (by omega) fun x121 x121a x121b x121f => ?_
                have hr := rI_of x121f
                rw [show x119.toInt.toNat = 36 * g.toInt.toNat + t.toInt.toNat by omega] at hr
                refine s_ic 148 133 rfl rfl rfl (fun (h122 : x121.toInt ≤ x111.toInt) => ?_) (fun (h122 : ¬ (x121.toInt ≤ x111.toInt)) => ?_)
                · --
                  refine aw_step (f1 := (151, [some (.ref 65), some (.int more), some (.int g), some (.int (t + Int32.ofInt 1)), some (.int x108), some (.int x111)], [])) (w1 := w) rfl rfl ?_
                  obtain ⟨x123, x123e⟩ : ∃ z, z = (t + Int32.ofInt 1) := ⟨_, rfl⟩
                  have x123t : x123.toInt = t.toInt + (1) := by rw [x123e]; exact n_add (y := Int32.ofInt (1)) (by show _ ≤ _ + (1 : Int); omega) (by show _ + (1 : Int) ≤ _; omega)
                  rw [← x123e]
                  refine aw_step (f1 := (58, [some (.ref 65), some (.int more), some (.int g), some (.int x123), some (.int x108), some (.int x111)], [])) (w1 := w) rfl rfl ?_
                  exact ih w more x123 _ _ (by omega) (by omega) (by omega) J O GI (by
                    rcases R with q | ⟨q1, q2, q3⟩
                    · exact Or.inl q
                    · refine Or.inr ⟨q1, q2, fun a b hab ha hb hne la lb => ?_⟩
                      by_cases e : (a : Int) = g.toInt ∧ (b : Int) = t.toInt
                      · have l1 := (O.ld (by decide) (by decide) g.toInt).mpr (e.1 ▸ la)
                        have l2 := (O.ld (by decide) (by decide) t.toInt).mpr (e.2 ▸ lb)
                        unfold ldM at l1 l2
                        first
                          | (exfalso; omega)
                          | (rw [show a = g.toInt.toNat by omega, show b = t.toInt.toNat by omega, hr, ge]; omega)
                      · exact q3 a b (by omega) ha hb hne la lb)
                · --
                  refine aw_step (f1 := (134, [some (.ref 65), some (.int more), some (.int g), some (.int t), some (.int x108), some (.int x111)], [(.ref 65)])) (w1 := w) rfl rfl ?_
                  refine s_gr 86 J 137 rfl rfl rfl rfl rfl rfl ?_
                  refine s_i (pc1 := 139) (ls1 := [some (.ref 65), some (.int more), some (.int g), some (.int t), some (.int x108), some (.int x111)]) (st1 := [(.ref 86)]) rfl rfl fun x124 e125 => ?_
                  have e125t : x124.toInt = 36 := by rw [e125]; rfl
                  refine aw_step (f1 := (140, [some (.ref 65), some (.int more), some (.int g), some (.int t), some (.int x108), some (.int x111)], [(.int g), (.int x124), (.ref 86)])) (w1 := w) rfl rfl ?_
                  refine s_i (pc1 := 141) (ls1 := [some (.ref 65), some (.int more), some (.int g), some (.int t), some (.int x108), some (.int x111)]) (st1 := [(.ref 86)]) rfl rfl fun x126 e127 => ?_
                  have e127 : x126 = x124 * g := e127
                  have e127t : x126.toInt = 36 * g.toInt := by rw [e127, n_mul (by rw [e125t]; omega) (by rw [e125t]; omega), e125t]
                  refine aw_step (f1 := (142, [some (.ref 65), some (.int more), some (.int g), some (.int t), some (.int x108), some (.int x111)], [(.int t), (.int x126), (.ref 86)])) (w1 := w) rfl rfl ?_
                  refine s_i (pc1 := 143) (ls1 := [some (.ref 65), some (.int more), some (.int g), some (.int t), some (.int x108), some (.int x111)]) (st1 := [(.ref 86)]) rfl rfl fun x128 e129 => ?_
                  have e129 : x128 = x126 + t := e129
                  have e129t : x128.toInt = x126.toInt + t.toInt := by rw [e129]; exact n_add (by omega) (by omega)
                  refine aw_step (f1 := (145, [some (.ref 65), some (.int more), some (.int g), some (.int t), some (.int x108), some (.int x111)], [(.int x111), (.int x128), (.ref 86)])) (w1 := w) rfl rfl ?_
                  --
                  refine s_is J 146 rfl rfl rfl rfl (by omega) (by omega) (by omega) (by omega) fun w130 J131 w130e => ?_
                  refine s_i (pc1 := 147) (ls1 := [some (.ref 65), some (.int more), some (.int g), some (.int t), some (.int x108), some (.int x111)]) (st1 := []) rfl rfl fun x132 e133 => ?_
                  have e133t : x132.toInt = 1 := by rw [e133]; rfl
                  refine aw_step (f1 := (148, [some (.ref 65), some (.int x132), some (.int g), some (.int t), some (.int x108), some (.int x111)], [])) (w1 := w130) rfl rfl ?_
                  refine aw_step (f1 := (151, [some (.ref 65), some (.int x132), some (.int g), some (.int (t + Int32.ofInt 1)), some (.int x108), some (.int x111)], [])) (w1 := w130) rfl rfl ?_
                  obtain ⟨x134, x134e⟩ : ∃ z, z = (t + Int32.ofInt 1) := ⟨_, rfl⟩
                  have x134t : x134.toInt = t.toInt + (1) := by rw [x134e]; exact n_add (y := Int32.ofInt (1)) (by show _ ≤ _ + (1 : Int); omega) (by show _ + (1 : Int) ≤ _; omega)
                  rw [← x134e]
                  refine aw_step (f1 := (58, [some (.ref 65), some (.int x132), some (.int g), some (.int x134), some (.int x108), some (.int x111)], [])) (w1 := w130) rfl rfl ?_
                  have so := rI_st J.1 (p := 86) (j := x128.toInt.toNat) rfl (by omega) w130e
                  rw [show x128.toInt.toNat = 36 * g.toInt.toNat + t.toInt.toNat by omega] at so
                  have sl := sR_lt (j := 36 * g.toInt.toNat + t.toInt.toNat) (by omega) so.2.1 so.2.2 (by omega)
                  have zo := so.1.sz (by decide)
                  exact ih w130 x132 x134 _ _ (by omega) (by omega) (by omega) J131 (O.trans so.1) (GI.st (by omega) (by omega) (by omega) (by omega) so.2.1 so.2.2 (by rw [ge]; omega) (by omega)) (Or.inl ⟨by omega, by omega⟩)
            · --
              refine aw_step (f1 := (100, [some (.ref 65), some (.int more), some (.int g), some (.int t), some (.int x108), o5], [(.ref 65)])) (w1 := w) rfl rfl ?_
              refine aw_step (f1 := (101, [some (.ref 65), some (.int more), some (.int g), some (.int t), some (.int x108), o5], [(.int g), (.ref 65)])) (w1 := w) rfl rfl ?_
              refine aw_step (f1 := (102, [some (.ref 65), some (.int more), some (.int g), some (.int t), some (.int x108), o5], [(.int t), (.int g), (.ref 65)])) (w1 := w) rfl rfl ?_
              refine s_cv (z := 174) (p := 65) (as := [(.int g), (.int t)]) (st1 := []) J 105 rfl rfl rfl rfl rfl rfl rfl rfl (Nat.le_of_ble_eq_true rfl) (Nat.le_of_ble_eq_true rfl) (q_bestFrom g t ⟨by omega, by omega⟩ ⟨by omega, by omega⟩ J.1) ?_
              rintro _ _ ⟨rfl, x135, rfl, x135t⟩
              refine ⟨rfl, ?_⟩
              show aw none _ 175 _ (105, [some (.ref 65), some (.int more), some (.int g), some (.int t), some (.int x108), o5], [(.int x135)]) w
              have x135b := bs_b (r := rI w 86) (x := rL w 74 g.toInt.toNat) (y := rL w 75 t.toInt.toNat) (g := g.toInt.toNat) (t := t.toInt.toNat) (sz := (szM w).toNat) (rds_b J.1) (by omega) (by have := szM_in J.1; omega)
              refine aw_step (f1 := (110, [some (.ref 65), some (.int more), some (.int g), some (.int t), some (.int x108), o5], [(.int x135)])) (w1 := w) rfl rfl ?_
              refine aw_step (f1 := (112, [some (.ref 65), some (.int more), some (.int g), some (.int t), some (.int x108), some (.int x135)], [])) (w1 := w) rfl rfl ?_
              refine aw_step (f1 := (114, [some (.ref 65), some (.int more), some (.int g), some (.int t), some (.int x108), some (.int x135)], [(.int x108)])) (w1 := w) rfl rfl ?_
              refine s_if 148 117 rfl rfl rfl (fun (h136 : x108.toInt = 0) => ?_) (fun (h136 : ¬ (x108.toInt = 0)) => ?_)
              · --
                refine aw_step (f1 := (151, [some (.ref 65), some (.int more), some (.int g), some (.int (t + Int32.ofInt 1)), some (.int x108), some (.int x135)], [])) (w1 := w) rfl rfl ?_
                obtain ⟨x137, x137e⟩ : ∃ z, z = (t + Int32.ofInt 1) := ⟨_, rfl⟩
                have x137t : x137.toInt = t.toInt + (1) := by rw [x137e]; exact n_add (y := Int32.ofInt (1)) (by show _ ≤ _ + (1 : Int); omega) (by show _ + (1 : Int) ≤ _; omega)
                rw [← x137e]
                refine aw_step (f1 := (58, [some (.ref 65), some (.int more), some (.int g), some (.int x137), some (.int x108), some (.int x135)], [])) (w1 := w) rfl rfl ?_
                exact ih w more x137 _ _ (by omega) (by omega) (by omega) J O GI (by
                  rcases R with q | ⟨q1, q2, q3⟩
                  · exact Or.inl q
                  · refine Or.inr ⟨q1, q2, fun a b hab ha hb hne la lb => ?_⟩
                    by_cases e : (a : Int) = g.toInt ∧ (b : Int) = t.toInt
                    · have l1 := (O.ld (by decide) (by decide) g.toInt).mpr (e.1 ▸ la)
                      have l2 := (O.ld (by decide) (by decide) t.toInt).mpr (e.2 ▸ lb)
                      unfold ldM at l1 l2
                      first
                        | (exfalso; omega)
                        | (rw [show a = g.toInt.toNat by omega, show b = t.toInt.toNat by omega, hr, ge]; omega)
                    · exact q3 a b (by omega) ha hb hne la lb)
              · --
                refine aw_step (f1 := (119, [some (.ref 65), some (.int more), some (.int g), some (.int t), some (.int x108), some (.int x135)], [(.int x135)])) (w1 := w) rfl rfl ?_
                refine aw_step (f1 := (120, [some (.ref 65), some (.int more), some (.int g), some (.int t), some (.int x108), some (.int x135)], [(.ref 65), (.int x135)])) (w1 := w) rfl rfl ?_
                refine s_gr 86 J 123 rfl rfl rfl rfl rfl rfl ?_
                refine s_i (pc1 := 125) (ls1 := [some (.ref 65), some (.int more), some (.int g), some (.int t), some (.int x108), some (.int x135)]) (st1 := [(.ref 86), (.int x135)]) rfl rfl fun x138 e139 => ?_
                have e139t : x138.toInt = 36 := by rw [e139]; rfl
                refine aw_step (f1 := (126, [some (.ref 65), some (.int more), some (.int g), some (.int t), some (.int x108), some (.int x135)], [(.int g), (.int x138), (.ref 86), (.int x135)])) (w1 := w) rfl rfl ?_
                refine s_i (pc1 := 127) (ls1 := [some (.ref 65), some (.int more), some (.int g), some (.int t), some (.int x108), some (.int x135)]) (st1 := [(.ref 86), (.int x135)]) rfl rfl fun x140 e141 => ?_
                have e141 : x140 = x138 * g := e141
                have e141t : x140.toInt = 36 * g.toInt := by rw [e141, n_mul (by rw [e139t]; omega) (by rw [e139t]; omega), e139t]
                refine aw_step (f1 := (128, [some (.ref 65), some (.int more), some (.int g), some (.int t), some (.int x108), some (.int x135)], [(.int t), (.int x140), (.ref 86), (.int x135)])) (w1 := w) rfl rfl ?_
                refine s_i (pc1 := 129) (ls1 := [some (.ref 65), some (.int more), some (.int g), some (.int t), some (.int x108), some (.int x135)]) (st1 := [(.ref 86), (.int x135)]) rfl rfl fun x142 e143 => ?_
                have e143 : x142 = x140 + t := e143
                have e143t : x142.toInt = x140.toInt + t.toInt := by rw [e143]; exact n_add (by omega) (by omega)
                --
                refine s_ia J 130 rfl rfl rfl rfl (by omega) (by omega) fun x144 x144a x144b x144f => ?_
                have hr := rI_of x144f
                rw [show x142.toInt.toNat = 36 * g.toInt.toNat + t.toInt.toNat by omega] at hr
                refine s_ic 148 133 rfl rfl rfl (fun (h145 : x144.toInt ≤ x135.toInt) => ?_) (fun (h145 : ¬ (x144.toInt ≤ x135.toInt)) => ?_)
                · --
                  refine aw_step (f1 := (151, [some (.ref 65), some (.int more), some (.int g), some (.int (t + Int32.ofInt 1)), some (.int x108), some (.int x135)], [])) (w1 := w) rfl rfl ?_
                  obtain ⟨x146, x146e⟩ : ∃ z, z = (t + Int32.ofInt 1) := ⟨_, rfl⟩
                  have x146t : x146.toInt = t.toInt + (1) := by rw [x146e]; exact n_add (y := Int32.ofInt (1)) (by show _ ≤ _ + (1 : Int); omega) (by show _ + (1 : Int) ≤ _; omega)
                  rw [← x146e]
                  refine aw_step (f1 := (58, [some (.ref 65), some (.int more), some (.int g), some (.int x146), some (.int x108), some (.int x135)], [])) (w1 := w) rfl rfl ?_
                  exact ih w more x146 _ _ (by omega) (by omega) (by omega) J O GI (by
                    rcases R with q | ⟨q1, q2, q3⟩
                    · exact Or.inl q
                    · refine Or.inr ⟨q1, q2, fun a b hab ha hb hne la lb => ?_⟩
                      by_cases e : (a : Int) = g.toInt ∧ (b : Int) = t.toInt
                      · have l1 := (O.ld (by decide) (by decide) g.toInt).mpr (e.1 ▸ la)
                        have l2 := (O.ld (by decide) (by decide) t.toInt).mpr (e.2 ▸ lb)
                        unfold ldM at l1 l2
                        first
                          | (exfalso; omega)
                          | (rw [show a = g.toInt.toNat by omega, show b = t.toInt.toNat by omega, hr, ge]; omega)
                      · exact q3 a b (by omega) ha hb hne la lb)
                · --
                  refine aw_step (f1 := (134, [some (.ref 65), some (.int more), some (.int g), some (.int t), some (.int x108), some (.int x135)], [(.ref 65)])) (w1 := w) rfl rfl ?_
                  refine s_gr 86 J 137 rfl rfl rfl rfl rfl rfl ?_
                  refine s_i (pc1 := 139) (ls1 := [some (.ref 65), some (.int more), some (.int g), some (.int t), some (.int x108), some (.int x135)]) (st1 := [(.ref 86)]) rfl rfl fun x147 e148 => ?_
                  have e148t : x147.toInt = 36 := by rw [e148]; rfl
                  refine aw_step (f1 := (140, [some (.ref 65), some (.int more), some (.int g), some (.int t), some (.int x108), some (.int x135)], [(.int g), (.int x147), (.ref 86)])) (w1 := w) rfl rfl ?_
                  refine s_i (pc1 := 141) (ls1 := [some (.ref 65), some (.int more), some (.int g), some (.int t), some (.int x108), some (.int x135)]) (st1 := [(.ref 86)]) rfl rfl fun x149 e150 => ?_
                  have e150 : x149 = x147 * g := e150
                  have e150t : x149.toInt = 36 * g.toInt := by rw [e150, n_mul (by rw [e148t]; omega) (by rw [e148t]; omega), e148t]
                  refine aw_step (f1 := (142, [some (.ref 65), some (.int more), some (.int g), some (.int t), some (.int x108), some (.int x135)], [(.int t), (.int x149), (.ref 86)])) (w1 := w) rfl rfl ?_
                  refine s_i (pc1 := 143) (ls1 := [some (.ref 65), some (.int more), some (.int g), some (.int t), some (.int x108), some (.int x135)]) (st1 := [(.ref 86)]) rfl rfl fun x151 e152 => ?_
                  have e152 : x151 = x149 + t := e152
                  have e152t : x151.toInt = x149.toInt + t.toInt := by rw [e152]; exact n_add (by omega) (by omega)
                  refine aw_step (f1 := (145, [some (.ref 65), some (.int more), some (.int g), some (.int t), some (.int x108), some (.int x135)], [(.int x135), (.int x151), (.ref 86)])) (w1 := w) rfl rfl ?_
                  --
                  refine s_is J 146 rfl rfl rfl rfl (by omega) (by omega) (by omega) (by omega) fun w153 J154 w153e => ?_
                  refine s_i (pc1 := 147) (ls1 := [some (.ref 65), some (.int more), some (.int g), some (.int t), some (.int x108), some (.int x135)]) (st1 := []) rfl rfl fun x155 e156 => ?_
                  have e156t : x155.toInt = 1 := by rw [e156]; rfl
                  refine aw_step (f1 := (148, [some (.ref 65), some (.int x155), some (.int g), some (.int t), some (.int x108), some (.int x135)], [])) (w1 := w153) rfl rfl ?_
                  refine aw_step (f1 := (151, [some (.ref 65), some (.int x155), some (.int g), some (.int (t + Int32.ofInt 1)), some (.int x108), some (.int x135)], [])) (w1 := w153) rfl rfl ?_
                  obtain ⟨x157, x157e⟩ : ∃ z, z = (t + Int32.ofInt 1) := ⟨_, rfl⟩
                  have x157t : x157.toInt = t.toInt + (1) := by rw [x157e]; exact n_add (y := Int32.ofInt (1)) (by show _ ≤ _ + (1 : Int); omega) (by show _ + (1 : Int) ≤ _; omega)
                  rw [← x157e]
                  refine aw_step (f1 := (58, [some (.ref 65), some (.int x155), some (.int g), some (.int x157), some (.int x108), some (.int x135)], [])) (w1 := w153) rfl rfl ?_
                  have so := rI_st J.1 (p := 86) (j := x151.toInt.toNat) rfl (by omega) w153e
                  rw [show x151.toInt.toNat = 36 * g.toInt.toNat + t.toInt.toNat by omega] at so
                  have sl := sR_lt (j := 36 * g.toInt.toNat + t.toInt.toNat) (by omega) so.2.1 so.2.2 (by omega)
                  have zo := so.1.sz (by decide)
                  exact ih w153 x155 x157 _ _ (by omega) (by omega) (by omega) J154 (O.trans so.1) (GI.st (by omega) (by omega) (by omega) (by omega) so.2.1 so.2.2 (by rw [ge]; omega) (by omega)) (Or.inl ⟨by omega, by omega⟩)
          · --
            refine s_i (pc1 := 88) (ls1 := [some (.ref 65), some (.int more), some (.int g), some (.int t), o4, o5]) (st1 := []) rfl rfl fun x158 e159 => ?_
            have e159t : x158.toInt = 1 := by rw [e159]; rfl
            refine aw_step (f1 := (92, [some (.ref 65), some (.int more), some (.int g), some (.int t), o4, o5], [(.int x158)])) (w1 := w) rfl rfl ?_
            refine aw_step (f1 := (94, [some (.ref 65), some (.int more), some (.int g), some (.int t), some (.int x158), o5], [])) (w1 := w) rfl rfl ?_
            refine aw_step (f1 := (96, [some (.ref 65), some (.int more), some (.int g), some (.int t), some (.int x158), o5], [(.int x158)])) (w1 := w) rfl rfl ?_
            refine s_if 108 99 rfl rfl rfl (fun (h160 : x158.toInt = 0) => ?_) (fun (h160 : ¬ (x158.toInt = 0)) => ?_)
            · --
              refine s_i (pc1 := 110) (ls1 := [some (.ref 65), some (.int more), some (.int g), some (.int t), some (.int x158), o5]) (st1 := []) rfl rfl fun x161 e162 => ?_
              have e162t : x161.toInt = 100000 := by rw [e162]; rfl
              refine aw_step (f1 := (112, [some (.ref 65), some (.int more), some (.int g), some (.int t), some (.int x158), some (.int x161)], [])) (w1 := w) rfl rfl ?_
              refine aw_step (f1 := (114, [some (.ref 65), some (.int more), some (.int g), some (.int t), some (.int x158), some (.int x161)], [(.int x158)])) (w1 := w) rfl rfl ?_
              refine s_if 148 117 rfl rfl rfl (fun (h163 : x158.toInt = 0) => ?_) (fun (h163 : ¬ (x158.toInt = 0)) => ?_)
              · --
                refine aw_step (f1 := (151, [some (.ref 65), some (.int more), some (.int g), some (.int (t + Int32.ofInt 1)), some (.int x158), some (.int x161)], [])) (w1 := w) rfl rfl ?_
                obtain ⟨x164, x164e⟩ : ∃ z, z = (t + Int32.ofInt 1) := ⟨_, rfl⟩
                have x164t : x164.toInt = t.toInt + (1) := by rw [x164e]; exact n_add (y := Int32.ofInt (1)) (by show _ ≤ _ + (1 : Int); omega) (by show _ + (1 : Int) ≤ _; omega)
                rw [← x164e]
                refine aw_step (f1 := (58, [some (.ref 65), some (.int more), some (.int g), some (.int x164), some (.int x158), some (.int x161)], [])) (w1 := w) rfl rfl ?_
                exact ih w more x164 _ _ (by omega) (by omega) (by omega) J O GI (by
                  rcases R with q | ⟨q1, q2, q3⟩
                  · exact Or.inl q
                  · refine Or.inr ⟨q1, q2, fun a b hab ha hb hne la lb => ?_⟩
                    by_cases e : (a : Int) = g.toInt ∧ (b : Int) = t.toInt
                    · have l1 := (O.ld (by decide) (by decide) g.toInt).mpr (e.1 ▸ la)
                      have l2 := (O.ld (by decide) (by decide) t.toInt).mpr (e.2 ▸ lb)
                      unfold ldM at l1 l2
                      first
                        | (exfalso; omega)
                        | (rw [show a = g.toInt.toNat by omega, show b = t.toInt.toNat by omega, hr, ge]; omega)
                    · exact q3 a b (by omega) ha hb hne la lb)
              · --
                refine aw_step (f1 := (119, [some (.ref 65), some (.int more), some (.int g), some (.int t), some (.int x158), some (.int x161)], [(.int x161)])) (w1 := w) rfl rfl ?_
                refine aw_step (f1 := (120, [some (.ref 65), some (.int more), some (.int g), some (.int t), some (.int x158), some (.int x161)], [(.ref 65), (.int x161)])) (w1 := w) rfl rfl ?_
                refine s_gr 86 J 123 rfl rfl rfl rfl rfl rfl ?_
                refine s_i (pc1 := 125) (ls1 := [some (.ref 65), some (.int more), some (.int g), some (.int t), some (.int x158), some (.int x161)]) (st1 := [(.ref 86), (.int x161)]) rfl rfl fun x165 e166 => ?_
                have e166t : x165.toInt = 36 := by rw [e166]; rfl
                refine aw_step (f1 := (126, [some (.ref 65), some (.int more), some (.int g), some (.int t), some (.int x158), some (.int x161)], [(.int g), (.int x165), (.ref 86), (.int x161)])) (w1 := w) rfl rfl ?_
                refine s_i (pc1 := 127) (ls1 := [some (.ref 65), some (.int more), some (.int g), some (.int t), some (.int x158), some (.int x161)]) (st1 := [(.ref 86), (.int x161)]) rfl rfl fun x167 e168 => ?_
                have e168 : x167 = x165 * g := e168
                have e168t : x167.toInt = 36 * g.toInt := by rw [e168, n_mul (by rw [e166t]; omega) (by rw [e166t]; omega), e166t]
                refine aw_step (f1 := (128, [some (.ref 65), some (.int more), some (.int g), some (.int t), some (.int x158), some (.int x161)], [(.int t), (.int x167), (.ref 86), (.int x161)])) (w1 := w) rfl rfl ?_
                refine s_i (pc1 := 129) (ls1 := [some (.ref 65), some (.int more), some (.int g), some (.int t), some (.int x158), some (.int x161)]) (st1 := [(.ref 86), (.int x161)]) rfl rfl fun x169 e170 => ?_
                have e170 : x169 = x167 + t := e170
                have e170t : x169.toInt = x167.toInt + t.toInt := by rw [e170]; exact n_add (by omega) (by omega)
                --
                refine s_ia J 130 rfl rfl rfl rfl (by omega) (by omega) fun x171 x171a x171b x171f => ?_
                have hr := rI_of x171f
                rw [show x169.toInt.toNat = 36 * g.toInt.toNat + t.toInt.toNat by omega] at hr
                refine s_ic 148 133 rfl rfl rfl (fun (h172 : x171.toInt ≤ x161.toInt) => ?_) (fun (h172 : ¬ (x171.toInt ≤ x161.toInt)) => ?_)
                · --
                  refine aw_step (f1 := (151, [some (.ref 65), some (.int more), some (.int g), some (.int (t + Int32.ofInt 1)), some (.int x158), some (.int x161)], [])) (w1 := w) rfl rfl ?_
                  obtain ⟨x173, x173e⟩ : ∃ z, z = (t + Int32.ofInt 1) := ⟨_, rfl⟩
                  have x173t : x173.toInt = t.toInt + (1) := by rw [x173e]; exact n_add (y := Int32.ofInt (1)) (by show _ ≤ _ + (1 : Int); omega) (by show _ + (1 : Int) ≤ _; omega)
                  rw [← x173e]
                  refine aw_step (f1 := (58, [some (.ref 65), some (.int more), some (.int g), some (.int x173), some (.int x158), some (.int x161)], [])) (w1 := w) rfl rfl ?_
                  exact ih w more x173 _ _ (by omega) (by omega) (by omega) J O GI (by
                    rcases R with q | ⟨q1, q2, q3⟩
                    · exact Or.inl q
                    · refine Or.inr ⟨q1, q2, fun a b hab ha hb hne la lb => ?_⟩
                      by_cases e : (a : Int) = g.toInt ∧ (b : Int) = t.toInt
                      · have l1 := (O.ld (by decide) (by decide) g.toInt).mpr (e.1 ▸ la)
                        have l2 := (O.ld (by decide) (by decide) t.toInt).mpr (e.2 ▸ lb)
                        unfold ldM at l1 l2
                        first
                          | (exfalso; omega)
                          | (rw [show a = g.toInt.toNat by omega, show b = t.toInt.toNat by omega, hr, ge]; omega)
                      · exact q3 a b (by omega) ha hb hne la lb)
                · --
                  refine aw_step (f1 := (134, [some (.ref 65), some (.int more), some (.int g), some (.int t), some (.int x158), some (.int x161)], [(.ref 65)])) (w1 := w) rfl rfl ?_
                  refine s_gr 86 J 137 rfl rfl rfl rfl rfl rfl ?_
                  refine s_i (pc1 := 139) (ls1 := [some (.ref 65), some (.int more), some (.int g), some (.int t), some (.int x158), some (.int x161)]) (st1 := [(.ref 86)]) rfl rfl fun x174 e175 => ?_
                  have e175t : x174.toInt = 36 := by rw [e175]; rfl
                  refine aw_step (f1 := (140, [some (.ref 65), some (.int more), some (.int g), some (.int t), some (.int x158), some (.int x161)], [(.int g), (.int x174), (.ref 86)])) (w1 := w) rfl rfl ?_
                  refine s_i (pc1 := 141) (ls1 := [some (.ref 65), some (.int more), some (.int g), some (.int t), some (.int x158), some (.int x161)]) (st1 := [(.ref 86)]) rfl rfl fun x176 e177 => ?_
                  have e177 : x176 = x174 * g := e177
                  have e177t : x176.toInt = 36 * g.toInt := by rw [e177, n_mul (by rw [e175t]; omega) (by rw [e175t]; omega), e175t]
                  refine aw_step (f1 := (142, [some (.ref 65), some (.int more), some (.int g), some (.int t), some (.int x158), some (.int x161)], [(.int t), (.int x176), (.ref 86)])) (w1 := w) rfl rfl ?_
                  refine s_i (pc1 := 143) (ls1 := [some (.ref 65), some (.int more), some (.int g), some (.int t), some (.int x158), some (.int x161)]) (st1 := [(.ref 86)]) rfl rfl fun x178 e179 => ?_
                  have e179 : x178 = x176 + t := e179
                  have e179t : x178.toInt = x176.toInt + t.toInt := by rw [e179]; exact n_add (by omega) (by omega)
                  refine aw_step (f1 := (145, [some (.ref 65), some (.int more), some (.int g), some (.int t), some (.int x158), some (.int x161)], [(.int x161), (.int x178), (.ref 86)])) (w1 := w) rfl rfl ?_
                  --
                  refine s_is J 146 rfl rfl rfl rfl (by omega) (by omega) (by omega) (by omega) fun w180 J181 w180e => ?_
                  refine s_i (pc1 := 147) (ls1 := [some (.ref 65), some (.int more), some (.int g), some (.int t), some (.int x158), some (.int x161)]) (st1 := []) rfl rfl fun x182 e183 => ?_
                  have e183t : x182.toInt = 1 := by rw [e183]; rfl
                  refine aw_step (f1 := (148, [some (.ref 65), some (.int x182), some (.int g), some (.int t), some (.int x158), some (.int x161)], [])) (w1 := w180) rfl rfl ?_
                  refine aw_step (f1 := (151, [some (.ref 65), some (.int x182), some (.int g), some (.int (t + Int32.ofInt 1)), some (.int x158), some (.int x161)], [])) (w1 := w180) rfl rfl ?_
                  obtain ⟨x184, x184e⟩ : ∃ z, z = (t + Int32.ofInt 1) := ⟨_, rfl⟩
                  have x184t : x184.toInt = t.toInt + (1) := by rw [x184e]; exact n_add (y := Int32.ofInt (1)) (by show _ ≤ _ + (1 : Int); omega) (by show _ + (1 : Int) ≤ _; omega)
                  rw [← x184e]
                  refine aw_step (f1 := (58, [some (.ref 65), some (.int x182), some (.int g), some (.int x184), some (.int x158), some (.int x161)], [])) (w1 := w180) rfl rfl ?_
                  have so := rI_st J.1 (p := 86) (j := x178.toInt.toNat) rfl (by omega) w180e
                  rw [show x178.toInt.toNat = 36 * g.toInt.toNat + t.toInt.toNat by omega] at so
                  have sl := sR_lt (j := 36 * g.toInt.toNat + t.toInt.toNat) (by omega) so.2.1 so.2.2 (by omega)
                  have zo := so.1.sz (by decide)
                  exact ih w180 x182 x184 _ _ (by omega) (by omega) (by omega) J181 (O.trans so.1) (GI.st (by omega) (by omega) (by omega) (by omega) so.2.1 so.2.2 (by rw [ge]; omega) (by omega)) (Or.inl ⟨by omega, by omega⟩)
            · --
              refine aw_step (f1 := (100, [some (.ref 65), some (.int more), some (.int g), some (.int t), some (.int x158), o5], [(.ref 65)])) (w1 := w) rfl rfl ?_
              refine aw_step (f1 := (101, [some (.ref 65), some (.int more), some (.int g), some (.int t), some (.int x158), o5], [(.int g), (.ref 65)])) (w1 := w) rfl rfl ?_
              refine aw_step (f1 := (102, [some (.ref 65), some (.int more), some (.int g), some (.int t), some (.int x158), o5], [(.int t), (.int g), (.ref 65)])) (w1 := w) rfl rfl ?_
              refine s_cv (z := 174) (p := 65) (as := [(.int g), (.int t)]) (st1 := []) J 105 rfl rfl rfl rfl rfl rfl rfl rfl (Nat.le_of_ble_eq_true rfl) (Nat.le_of_ble_eq_true rfl) (q_bestFrom g t ⟨by omega, by omega⟩ ⟨by omega, by omega⟩ J.1) ?_
              rintro _ _ ⟨rfl, x185, rfl, x185t⟩
              refine ⟨rfl, ?_⟩
              show aw none _ 175 _ (105, [some (.ref 65), some (.int more), some (.int g), some (.int t), some (.int x158), o5], [(.int x185)]) w
              have x185b := bs_b (r := rI w 86) (x := rL w 74 g.toInt.toNat) (y := rL w 75 t.toInt.toNat) (g := g.toInt.toNat) (t := t.toInt.toNat) (sz := (szM w).toNat) (rds_b J.1) (by omega) (by have := szM_in J.1; omega)
              refine aw_step (f1 := (110, [some (.ref 65), some (.int more), some (.int g), some (.int t), some (.int x158), o5], [(.int x185)])) (w1 := w) rfl rfl ?_
              refine aw_step (f1 := (112, [some (.ref 65), some (.int more), some (.int g), some (.int t), some (.int x158), some (.int x185)], [])) (w1 := w) rfl rfl ?_
              refine aw_step (f1 := (114, [some (.ref 65), some (.int more), some (.int g), some (.int t), some (.int x158), some (.int x185)], [(.int x158)])) (w1 := w) rfl rfl ?_
              refine s_if 148 117 rfl rfl rfl (fun (h186 : x158.toInt = 0) => ?_) (fun (h186 : ¬ (x158.toInt = 0)) => ?_)
              · --
                refine aw_step (f1 := (151, [some (.ref 65), some (.int more), some (.int g), some (.int (t + Int32.ofInt 1)), some (.int x158), some (.int x185)], [])) (w1 := w) rfl rfl ?_
                obtain ⟨x187, x187e⟩ : ∃ z, z = (t + Int32.ofInt 1) := ⟨_, rfl⟩
                have x187t : x187.toInt = t.toInt + (1) := by rw [x187e]; exact n_add (y := Int32.ofInt (1)) (by show _ ≤ _ + (1 : Int); omega) (by show _ + (1 : Int) ≤ _; omega)
                rw [← x187e]
                refine aw_step (f1 := (58, [some (.ref 65), some (.int more), some (.int g), some (.int x187), some (.int x158), some (.int x185)], [])) (w1 := w) rfl rfl ?_
                exact ih w more x187 _ _ (by omega) (by omega) (by omega) J O GI (by
                  rcases R with q | ⟨q1, q2, q3⟩
                  · exact Or.inl q
                  · refine Or.inr ⟨q1, q2, fun a b hab ha hb hne la lb => ?_⟩
                    by_cases e : (a : Int) = g.toInt ∧ (b : Int) = t.toInt
                    · have l1 := (O.ld (by decide) (by decide) g.toInt).mpr (e.1 ▸ la)
                      have l2 := (O.ld (by decide) (by decide) t.toInt).mpr (e.2 ▸ lb)
                      unfold ldM at l1 l2
                      first
                        | (exfalso; omega)
                        | (rw [show a = g.toInt.toNat by omega, show b = t.toInt.toNat by omega, hr, ge]; omega)
                    · exact q3 a b (by omega) ha hb hne la lb)
              · --
                refine aw_step (f1 := (119, [some (.ref 65), some (.int more), some (.int g), some (.int t), some (.int x158), some (.int x185)], [(.int x185)])) (w1 := w) rfl rfl ?_
                refine aw_step (f1 := (120, [some (.ref 65), some (.int more), some (.int g), some (.int t), some (.int x158), some (.int x185)], [(.ref 65), (.int x185)])) (w1 := w) rfl rfl ?_
                refine s_gr 86 J 123 rfl rfl rfl rfl rfl rfl ?_
                refine s_i (pc1 := 125) (ls1 := [some (.ref 65), some (.int more), some (.int g), some (.int t), some (.int x158), some (.int x185)]) (st1 := [(.ref 86), (.int x185)]) rfl rfl fun x188 e189 => ?_
                have e189t : x188.toInt = 36 := by rw [e189]; rfl
                refine aw_step (f1 := (126, [some (.ref 65), some (.int more), some (.int g), some (.int t), some (.int x158), some (.int x185)], [(.int g), (.int x188), (.ref 86), (.int x185)])) (w1 := w) rfl rfl ?_
                refine s_i (pc1 := 127) (ls1 := [some (.ref 65), some (.int more), some (.int g), some (.int t), some (.int x158), some (.int x185)]) (st1 := [(.ref 86), (.int x185)]) rfl rfl fun x190 e191 => ?_
                have e191 : x190 = x188 * g := e191
                have e191t : x190.toInt = 36 * g.toInt := by rw [e191, n_mul (by rw [e189t]; omega) (by rw [e189t]; omega), e189t]
                refine aw_step (f1 := (128, [some (.ref 65), some (.int more), some (.int g), some (.int t), some (.int x158), some (.int x185)], [(.int t), (.int x190), (.ref 86), (.int x185)])) (w1 := w) rfl rfl ?_
                refine s_i (pc1 := 129) (ls1 := [some (.ref 65), some (.int more), some (.int g), some (.int t), some (.int x158), some (.int x185)]) (st1 := [(.ref 86), (.int x185)]) rfl rfl fun x192 e193 => ?_
                have e193 : x192 = x190 + t := e193
                have e193t : x192.toInt = x190.toInt + t.toInt := by rw [e193]; exact n_add (by omega) (by omega)
                --
                refine s_ia J 130 rfl rfl rfl rfl (by omega) (by omega) fun x194 x194a x194b x194f => ?_
                have hr := rI_of x194f
                rw [show x192.toInt.toNat = 36 * g.toInt.toNat + t.toInt.toNat by omega] at hr
                refine s_ic 148 133 rfl rfl rfl (fun (h195 : x194.toInt ≤ x185.toInt) => ?_) (fun (h195 : ¬ (x194.toInt ≤ x185.toInt)) => ?_)
                · --
                  refine aw_step (f1 := (151, [some (.ref 65), some (.int more), some (.int g), some (.int (t + Int32.ofInt 1)), some (.int x158), some (.int x185)], [])) (w1 := w) rfl rfl ?_
                  obtain ⟨x196, x196e⟩ : ∃ z, z = (t + Int32.ofInt 1) := ⟨_, rfl⟩
                  have x196t : x196.toInt = t.toInt + (1) := by rw [x196e]; exact n_add (y := Int32.ofInt (1)) (by show _ ≤ _ + (1 : Int); omega) (by show _ + (1 : Int) ≤ _; omega)
                  rw [← x196e]
                  refine aw_step (f1 := (58, [some (.ref 65), some (.int more), some (.int g), some (.int x196), some (.int x158), some (.int x185)], [])) (w1 := w) rfl rfl ?_
                  exact ih w more x196 _ _ (by omega) (by omega) (by omega) J O GI (by
                    rcases R with q | ⟨q1, q2, q3⟩
                    · exact Or.inl q
                    · refine Or.inr ⟨q1, q2, fun a b hab ha hb hne la lb => ?_⟩
                      by_cases e : (a : Int) = g.toInt ∧ (b : Int) = t.toInt
                      · have l1 := (O.ld (by decide) (by decide) g.toInt).mpr (e.1 ▸ la)
                        have l2 := (O.ld (by decide) (by decide) t.toInt).mpr (e.2 ▸ lb)
                        unfold ldM at l1 l2
                        first
                          | (exfalso; omega)
                          | (rw [show a = g.toInt.toNat by omega, show b = t.toInt.toNat by omega, hr, ge]; omega)
                      · exact q3 a b (by omega) ha hb hne la lb)
                · --
                  refine aw_step (f1 := (134, [some (.ref 65), some (.int more), some (.int g), some (.int t), some (.int x158), some (.int x185)], [(.ref 65)])) (w1 := w) rfl rfl ?_
                  refine s_gr 86 J 137 rfl rfl rfl rfl rfl rfl ?_
                  refine s_i (pc1 := 139) (ls1 := [some (.ref 65), some (.int more), some (.int g), some (.int t), some (.int x158), some (.int x185)]) (st1 := [(.ref 86)]) rfl rfl fun x197 e198 => ?_
                  have e198t : x197.toInt = 36 := by rw [e198]; rfl
                  refine aw_step (f1 := (140, [some (.ref 65), some (.int more), some (.int g), some (.int t), some (.int x158), some (.int x185)], [(.int g), (.int x197), (.ref 86)])) (w1 := w) rfl rfl ?_
                  refine s_i (pc1 := 141) (ls1 := [some (.ref 65), some (.int more), some (.int g), some (.int t), some (.int x158), some (.int x185)]) (st1 := [(.ref 86)]) rfl rfl fun x199 e200 => ?_
                  have e200 : x199 = x197 * g := e200
                  have e200t : x199.toInt = 36 * g.toInt := by rw [e200, n_mul (by rw [e198t]; omega) (by rw [e198t]; omega), e198t]
                  refine aw_step (f1 := (142, [some (.ref 65), some (.int more), some (.int g), some (.int t), some (.int x158), some (.int x185)], [(.int t), (.int x199), (.ref 86)])) (w1 := w) rfl rfl ?_
                  refine s_i (pc1 := 143) (ls1 := [some (.ref 65), some (.int more), some (.int g), some (.int t), some (.int x158), some (.int x185)]) (st1 := [(.ref 86)]) rfl rfl fun x201 e202 => ?_
                  have e202 : x201 = x199 + t := e202
                  have e202t : x201.toInt = x199.toInt + t.toInt := by rw [e202]; exact n_add (by omega) (by omega)
                  refine aw_step (f1 := (145, [some (.ref 65), some (.int more), some (.int g), some (.int t), some (.int x158), some (.int x185)], [(.int x185), (.int x201), (.ref 86)])) (w1 := w) rfl rfl ?_
                  --
                  refine s_is J 146 rfl rfl rfl rfl (by omega) (by omega) (by omega) (by omega) fun w203 J204 w203e => ?_
                  refine s_i (pc1 := 147) (ls1 := [some (.ref 65), some (.int more), some (.int g), some (.int t), some (.int x158), some (.int x185)]) (st1 := []) rfl rfl fun x205 e206 => ?_
                  have e206t : x205.toInt = 1 := by rw [e206]; rfl
                  refine aw_step (f1 := (148, [some (.ref 65), some (.int x205), some (.int g), some (.int t), some (.int x158), some (.int x185)], [])) (w1 := w203) rfl rfl ?_
                  refine aw_step (f1 := (151, [some (.ref 65), some (.int x205), some (.int g), some (.int (t + Int32.ofInt 1)), some (.int x158), some (.int x185)], [])) (w1 := w203) rfl rfl ?_
                  obtain ⟨x207, x207e⟩ : ∃ z, z = (t + Int32.ofInt 1) := ⟨_, rfl⟩
                  have x207t : x207.toInt = t.toInt + (1) := by rw [x207e]; exact n_add (y := Int32.ofInt (1)) (by show _ ≤ _ + (1 : Int); omega) (by show _ + (1 : Int) ≤ _; omega)
                  rw [← x207e]
                  refine aw_step (f1 := (58, [some (.ref 65), some (.int x205), some (.int g), some (.int x207), some (.int x158), some (.int x185)], [])) (w1 := w203) rfl rfl ?_
                  have so := rI_st J.1 (p := 86) (j := x201.toInt.toNat) rfl (by omega) w203e
                  rw [show x201.toInt.toNat = 36 * g.toInt.toNat + t.toInt.toNat by omega] at so
                  have sl := sR_lt (j := 36 * g.toInt.toNat + t.toInt.toNat) (by omega) so.2.1 so.2.2 (by omega)
                  have zo := so.1.sz (by decide)
                  exact ih w203 x205 x207 _ _ (by omega) (by omega) (by omega) J204 (O.trans so.1) (GI.st (by omega) (by omega) (by omega) (by omega) so.2.1 so.2.2 (by rw [ge]; omega) (by omega)) (Or.inl ⟨by omega, by omega⟩)
theorem q_frJ {d : Nat} {Q : Option Value → am_W → Prop} {w00 wb : am_W} {s0 : Int} (K : ∀ (w : am_W) (more g : Int32) (o3 o4 o5 : Option Value), ab_J ab_TT ab_sets ab_WR w00 w → only [86] wb w → gI wb w → szM wb ≤ g.toInt → ((more.toInt = 1 ∧ sR w < s0) ∨ (more.toInt = 0 ∧ sR w ≤ s0 ∧ gF wb w g.toInt 0)) → aw none (d + 4) 175 Q (160, [some (.ref 65), some (.int more), some (.int g), o3, o4, o5], []) w) : ∀ (m : Nat) (w : am_W) (more g : Int32) (o3 o4 o5 : Option Value), (szM wb - g.toInt).toNat < m → 0 ≤ g.toInt → g.toInt ≤ szM wb → ab_J ab_TT ab_sets ab_WR w00 w → only [86] wb w → gI wb w → ((more.toInt = 1 ∧ sR w < s0) ∨ (more.toInt = 0 ∧ sR w ≤ s0 ∧ gF wb w g.toInt 0)) → aw none (d + 4) 175 Q (48, [some (.ref 65), some (.int more), some (.int g), o3, o4, o5], []) w := by
  intro m
  induction m with
  | zero => intro w more g o3 o4 o5 p; omega
  | succ m ih =>
    intro w more g o3 o4 o5 p1 p2 p3 J O GI R
    have zz := O.sz (by decide)
    have sz := szM_in J.1
    refine aw_step (f1 := (49, [some (.ref 65), some (.int more), some (.int g), o3, o4, o5], [(.int g)])) (w1 := w) rfl rfl ?_
    refine aw_step (f1 := (50, [some (.ref 65), some (.int more), some (.int g), o3, o4, o5], [(.ref 65), (.int g)])) (w1 := w) rfl rfl ?_
    refine s_cv (z := 113) (p := 65) (as := []) (st1 := [(.int g)]) J 53 rfl rfl rfl rfl rfl rfl rfl rfl (Nat.le_of_ble_eq_true rfl) (Nat.le_of_ble_eq_true rfl) (q_cells J.1) ?_
    rintro _ _ ⟨rfl, x1, rfl, x1t⟩
    refine ⟨rfl, ?_⟩
    show aw none _ 175 _ (53, [some (.ref 65), some (.int more), some (.int g), o3, o4, o5], [(.int x1), (.int g)]) w
    have x1s := szM_in J.1
    refine s_ic 160 56 rfl rfl rfl (fun (h2 : x1.toInt ≤ g.toInt) => ?_) (fun (h2 : ¬ (x1.toInt ≤ g.toInt)) => ?_)
    · --
      exact K w more g _ _ _ J O GI (by omega) R
    · --
      refine s_i (pc1 := 57) (ls1 := [some (.ref 65), some (.int more), some (.int g), o3, o4, o5]) (st1 := []) rfl rfl fun x3 e4 => ?_
      have e4t : x3.toInt = 0 := by rw [e4]; rfl
      refine aw_step (f1 := (58, [some (.ref 65), some (.int more), some (.int g), some (.int x3), o4, o5], [])) (w1 := w) rfl rfl ?_
      refine q_frI (s0 := s0) g ⟨by omega, by omega⟩ (fun wq mq tq o4q o5q Jq Oq GIq tz Rq => ?_) 37 w more x3 _ _ (by omega) (by omega) (by omega) J O GI (by rw [e4t]; exact R)
      refine aw_step (f1 := (157, [some (.ref 65), some (.int mq), some (.int (g + Int32.ofInt 1)), some (.int tq), o4q, o5q], [])) (w1 := wq) rfl rfl ?_
      obtain ⟨zx1, zx1e⟩ : ∃ z, z = (g + Int32.ofInt 1) := ⟨_, rfl⟩
      have zx1t : zx1.toInt = g.toInt + (1) := by rw [zx1e]; exact n_add (y := Int32.ofInt (1)) (by show _ ≤ _ + (1 : Int); omega) (by show _ + (1 : Int) ≤ _; omega)
      rw [← zx1e]
      refine aw_step (f1 := (48, [some (.ref 65), some (.int mq), some (.int zx1), some (.int tq), o4q, o5q], [])) (w1 := wq) rfl rfl ?_
      exact ih wq mq zx1 _ _ _ (by omega) (by omega) (by omega) Jq Oq GIq (by
        rcases Rq with q | ⟨q1, q2, q3⟩
        · exact Or.inl q
        · exact Or.inr ⟨q1, q2, fun a b hab ha hb hne la lb => q3 a b (by omega) ha hb hne la lb⟩)
theorem q_frO {d : Nat} {w00 wb : am_W} : ∀ (m : Nat) (w : am_W) (more : Int32) (o2 o3 o4 o5 : Option Value), (sR w).toNat + more.toInt.toNat < m → (more.toInt = 0 ∨ more.toInt = 1) → ab_J ab_TT ab_sets ab_WR w00 w → only [86] wb w → gI wb w → (more.toInt = 0 → gF wb w (szM wb) 0) → aw none (d + 4) 175 (fun r w1 => r = none ∧ ab_J ab_TT ab_sets ab_WR w00 w1 ∧ only [86] wb w1 ∧ gI wb w1 ∧ gF wb w1 (szM wb) 0) (40, [some (.ref 65), some (.int more), o2, o3, o4, o5], []) w := by
  intro m
  induction m with
  | zero => intro w more o2 o3 o4 o5 p; omega
  | succ m ih =>
    intro w more o2 o3 o4 o5 p1 p2 J O GI F
    have zz := O.sz (by decide)
    have sz := szM_in J.1
    refine aw_step (f1 := (41, [some (.ref 65), some (.int more), o2, o3, o4, o5], [(.int more)])) (w1 := w) rfl rfl ?_
    refine s_if 163 44 rfl rfl rfl (fun (h1 : more.toInt = 0) => ?_) (fun (h1 : ¬ (more.toInt = 0)) => ?_)
    · --
      refine aw_ret (v := none) rfl rfl ?_
      exact ⟨rfl, J, O, GI, F (by omega)⟩
    · --
      refine s_i (pc1 := 45) (ls1 := [some (.ref 65), some (.int more), o2, o3, o4, o5]) (st1 := []) rfl rfl fun x2 e3 => ?_
      have e3t : x2.toInt = 0 := by rw [e3]; rfl
      refine aw_step (f1 := (46, [some (.ref 65), some (.int x2), o2, o3, o4, o5], [])) (w1 := w) rfl rfl ?_
      refine s_i (pc1 := 47) (ls1 := [some (.ref 65), some (.int x2), o2, o3, o4, o5]) (st1 := []) rfl rfl fun x4 e5 => ?_
      have e5t : x4.toInt = 0 := by rw [e5]; rfl
      refine aw_step (f1 := (48, [some (.ref 65), some (.int x2), some (.int x4), o3, o4, o5], [])) (w1 := w) rfl rfl ?_
      have s1 := sR_0 J.1
      refine q_frJ (wb := wb) (s0 := sR w) (fun wq mq gq o3q o4q o5q Jq Oq GIq gz Rq => ?_) 37 w x2 x4 _ _ _ (by omega) (by omega) (by omega) J O GI (Or.inr ⟨by omega, Int.le_refl _, fun a b hab => by omega⟩)
      have s2 := sR_0 Jq.1
      refine aw_step (f1 := (40, [some (.ref 65), some (.int mq), some (.int gq), o3q, o4q, o5q], [])) (w1 := wq) rfl rfl ?_
      exact ih wq mq _ _ _ _ (by omega) (by omega) Jq Oq GIq (by
        intro m0
        rcases Rq with q | ⟨q1, q2, q3⟩
        · omega
        · exact fun a b hab ha hb hne la lb => q3 a b (by omega) ha hb hne la lb)
theorem q_fr0 {d : Nat} {w00 wb : am_W} : ∀ (m : Nat) (w : am_W) (i : Int32), (1296 - i.toInt).toNat < m → 0 ≤ i.toInt → i.toInt ≤ 1296 → ab_J ab_TT ab_sets ab_WR w00 w → only [86] wb w → (∀ j : Nat, (j : Int) < i.toInt → (rI w 86 j = 0 ∧ j / 36 = j % 36) ∨ (rI w 86 j = 100000 ∧ j / 36 ≠ j % 36)) → aw none (d + 4) 175 (fun r w1 => r = none ∧ ab_J ab_TT ab_sets ab_WR w00 w1 ∧ only [86] wb w1 ∧ gI wb w1 ∧ gF wb w1 (szM wb) 0) (2, [some (.ref 65), some (.int i), none, none, none, none], []) w := by
  intro m
  induction m with
  | zero => intro w i p; omega
  | succ m ih =>
    intro w i p1 p2 p3 J O F
    have sz := szM_in J.1
    have zz := O.sz (by decide)
    refine aw_step (f1 := (3, [some (.ref 65), some (.int i), none, none, none, none], [(.int i)])) (w1 := w) rfl rfl ?_
    refine s_i (pc1 := 6) (ls1 := [some (.ref 65), some (.int i), none, none, none, none]) (st1 := [(.int i)]) rfl rfl fun x1 e2 => ?_
    have e2t : x1.toInt = 1296 := by rw [e2]; rfl
    refine s_ic 38 9 rfl rfl rfl (fun (h3 : x1.toInt ≤ i.toInt) => ?_) (fun (h3 : ¬ (x1.toInt ≤ i.toInt)) => ?_)
    · --
      refine s_i (pc1 := 39) (ls1 := [some (.ref 65), some (.int i), none, none, none, none]) (st1 := []) rfl rfl fun x4 e5 => ?_
      have e5t : x4.toInt = 1 := by rw [e5]; rfl
      refine aw_step (f1 := (40, [some (.ref 65), some (.int x4), none, none, none, none], [])) (w1 := w) rfl rfl ?_
      exact q_frO ((sR w).toNat + 2) w x4 none none none none (by omega) (by omega) J O ⟨fun g hg => by have := F (36 * g + g) (by omega); omega, fun g t hg ht hgt hr => by have := F (36 * g + t) (by omega); omega⟩ (by omega)
    · --
      refine aw_step (f1 := (10, [some (.ref 65), some (.int i), none, none, none, none], [(.ref 65)])) (w1 := w) rfl rfl ?_
      refine s_gr 86 J 13 rfl rfl rfl rfl rfl rfl ?_
      refine aw_step (f1 := (14, [some (.ref 65), some (.int i), none, none, none, none], [(.int i), (.ref 86)])) (w1 := w) rfl rfl ?_
      refine aw_step (f1 := (15, [some (.ref 65), some (.int i), none, none, none, none], [(.int i), (.int i), (.ref 86)])) (w1 := w) rfl rfl ?_
      refine s_i (pc1 := 17) (ls1 := [some (.ref 65), some (.int i), none, none, none, none]) (st1 := [(.int i), (.int i), (.ref 86)]) rfl rfl fun x6 e7 => ?_
      have e7t : x6.toInt = 36 := by rw [e7]; rfl
      refine s_dv (f := fun x y => x / y) 18 rfl rfl (by omega) fun x8 e9 => ?_
      have e9 : x8 = i / x6 := e9
      have e9t : x8.toInt = i.toInt / x6.toInt := by rw [e9]; exact n_div (by omega) (by omega)
      rw [e7t] at e9t
      refine aw_step (f1 := (19, [some (.ref 65), some (.int i), none, none, none, none], [(.int i), (.int x8), (.int i), (.ref 86)])) (w1 := w) rfl rfl ?_
      refine s_i (pc1 := 21) (ls1 := [some (.ref 65), some (.int i), none, none, none, none]) (st1 := [(.int i), (.int x8), (.int i), (.ref 86)]) rfl rfl fun x10 e11 => ?_
      have e11t : x10.toInt = 36 := by rw [e11]; rfl
      refine s_dv (f := fun x y => x - x / y * y) 22 rfl rfl (by omega) fun x12 e13 => ?_
      have e13 : x12 = i - i / x10 * x10 := e13
      have e13t : x12.toInt = i.toInt % x10.toInt := by rw [e13]; exact n_rem (by omega) (by omega)
      rw [e11t] at e13t
      refine s_ic 29 25 rfl rfl rfl (fun (h14 : ¬ x8.toInt = x12.toInt) => ?_) (fun (h14 : ¬ (¬ x8.toInt = x12.toInt)) => ?_)
      · --
        refine s_i (pc1 := 31) (ls1 := [some (.ref 65), some (.int i), none, none, none, none]) (st1 := [(.int i), (.ref 86)]) rfl rfl fun x15 e16 => ?_
        have e16t : x15.toInt = 100000 := by rw [e16]; rfl
        refine s_is J 32 rfl rfl rfl rfl (by omega) (by omega) (by omega) (by omega) fun w17 J18 w17e => ?_
        refine aw_step (f1 := (35, [some (.ref 65), some (.int (i + Int32.ofInt 1)), none, none, none, none], [])) (w1 := w17) rfl rfl ?_
        obtain ⟨x19, x19e⟩ : ∃ z, z = (i + Int32.ofInt 1) := ⟨_, rfl⟩
        have x19t : x19.toInt = i.toInt + (1) := by rw [x19e]; exact n_add (y := Int32.ofInt (1)) (by show _ ≤ _ + (1 : Int); omega) (by show _ + (1 : Int) ≤ _; omega)
        rw [← x19e]
        refine aw_step (f1 := (2, [some (.ref 65), some (.int x19), none, none, none, none], [])) (w1 := w17) rfl rfl ?_
        have so := rI_st J.1 (p := 86) (j := i.toInt.toNat) rfl (by omega) w17e
        exact ih w17 x19 (by omega) (by omega) (by omega) J18 (O.trans so.1) (fun j hj => by
          by_cases e : j = i.toInt.toNat
          · rw [e, so.2.1]; omega
          · rw [so.2.2 j e]; exact F j (by omega))
      · --
        refine s_i (pc1 := 26) (ls1 := [some (.ref 65), some (.int i), none, none, none, none]) (st1 := [(.int i), (.ref 86)]) rfl rfl fun x20 e21 => ?_
        have e21t : x20.toInt = 0 := by rw [e21]; rfl
        refine aw_step (f1 := (31, [some (.ref 65), some (.int i), none, none, none, none], [(.int x20), (.int i), (.ref 86)])) (w1 := w) rfl rfl ?_
        refine s_is J 32 rfl rfl rfl rfl (by omega) (by omega) (by omega) (by omega) fun w22 J23 w22e => ?_
        refine aw_step (f1 := (35, [some (.ref 65), some (.int (i + Int32.ofInt 1)), none, none, none, none], [])) (w1 := w22) rfl rfl ?_
        obtain ⟨x24, x24e⟩ : ∃ z, z = (i + Int32.ofInt 1) := ⟨_, rfl⟩
        have x24t : x24.toInt = i.toInt + (1) := by rw [x24e]; exact n_add (y := Int32.ofInt (1)) (by show _ ≤ _ + (1 : Int); omega) (by show _ + (1 : Int) ≤ _; omega)
        rw [← x24e]
        refine aw_step (f1 := (2, [some (.ref 65), some (.int x24), none, none, none, none], [])) (w1 := w22) rfl rfl ?_
        have so := rI_st J.1 (p := 86) (j := i.toInt.toNat) rfl (by omega) w22e
        exact ih w22 x24 (by omega) (by omega) (by omega) J23 (O.trans so.1) (fun j hj => by
          by_cases e : j = i.toInt.toNat
          · rw [e, so.2.1]; omega
          · rw [so.2.2 j e]; exact F j (by omega))
theorem q_findRounds {d : Nat} {w : am_W} (I : ab_inv ab_TT ab_sets w) : aw none (d + 4) 175 (fun r w1 => r = none ∧ ab_J ab_TT ab_sets ab_WR w w1 ∧ only [86] w w1 ∧ gI w w1 ∧ gF w w1 (szM w) 0) (0, am_entry 175 [.ref 65], []) w := by
  have J : ab_J ab_TT ab_sets ab_WR w w := ⟨I, ab_fr.rf⟩
  show aw none (d + 4) 175 _ (0, [some (.ref 65), none, none, none, none, none], []) w
  refine s_i (pc1 := 1) (ls1 := [some (.ref 65), none, none, none, none, none]) (st1 := []) rfl rfl fun x1 e2 => ?_
  have e2t : x1.toInt = 0 := by rw [e2]; rfl
  refine aw_step (f1 := (2, [some (.ref 65), some (.int x1), none, none, none, none], [])) (w1 := w) rfl rfl ?_
  exact q_fr0 1297 w x1 (by omega) (by omega) (by omega) J only.rf (fun j hj => by omega)
theorem q_grW {d : Nat} {w00 w : am_W} (J : ab_J ab_TT ab_sets ab_WR w00 w) (bo c th wh wa is : Int32) (hc : 0 ≤ c.toInt ∧ c.toInt < 36) (hw : 0 ≤ wh.toInt ∧ wh.toInt < 36) (b : Nat) (h36 : b < 36) (hb2 : c.toInt.toNat = b ∨ bt (rL w 74 c.toInt.toNat) b = 1) (hb3 : wsT (rI w 86) (rL w 75 wh.toInt.toNat) b wh.toInt.toNat (szM w).toNat + 1 = is.toInt) : ∀ (m : Nat) (g : Int32), b - g.toInt.toNat < m → 0 ≤ g.toInt → g.toInt ≤ b → aw none (d + 3) 176 (QS w00) (94, [some (.ref 65), some (.int bo), some (.int c), some (.int th), some (.int wh), some (.int wa), some (.int is), some (.int g)], []) w := by
  intro m
  induction m with
  | zero => intro g p; omega
  | succ m ih =>
    intro g p1 p2 p3
    have sz := szM_in J.1
    refine aw_step (f1 := (95, [some (.ref 65), some (.int bo), some (.int c), some (.int th), some (.int wh), some (.int wa), some (.int is), some (.int g)], [(.ref 65)])) (w1 := w) rfl rfl ?_
    refine aw_step (f1 := (96, [some (.ref 65), some (.int bo), some (.int c), some (.int th), some (.int wh), some (.int wa), some (.int is), some (.int g)], [(.ref 65), (.ref 65)])) (w1 := w) rfl rfl ?_
    refine s_gr 74 J 99 rfl rfl rfl rfl rfl rfl ?_
    refine aw_step (f1 := (100, [some (.ref 65), some (.int bo), some (.int c), some (.int th), some (.int wh), some (.int wa), some (.int is), some (.int g)], [(.int c), (.ref 74), (.ref 65)])) (w1 := w) rfl rfl ?_
    refine s_la J 101 rfl rfl rfl (by omega) (by omega) fun y1 y1a y1b y1f => ?_
    have hrl := rL_of y1f
    refine aw_step (f1 := (102, [some (.ref 65), some (.int bo), some (.int c), some (.int th), some (.int wh), some (.int wa), some (.int is), some (.int g)], [(.int c), (.long y1), (.ref 65)])) (w1 := w) rfl rfl ?_
    refine aw_step (f1 := (104, [some (.ref 65), some (.int bo), some (.int c), some (.int th), some (.int wh), some (.int wa), some (.int is), some (.int g)], [(.int g), (.int c), (.long y1), (.ref 65)])) (w1 := w) rfl rfl ?_
    refine s_cv (z := 172) (p := 65) (as := [(.long y1), (.int c), (.int g)]) (st1 := []) J 107 rfl rfl rfl rfl rfl rfl rfl rfl (Nat.le_of_ble_eq_true rfl) (Nat.le_of_ble_eq_true rfl) (q_mayGo y1 c g ⟨by omega, by omega⟩) ?_
    rintro _ _ ⟨rfl, x2, rfl, x2t⟩
    refine ⟨rfl, ?_⟩
    show aw none _ 176 _ (107, [some (.ref 65), some (.int bo), some (.int c), some (.int th), some (.int wh), some (.int wa), some (.int is), some (.int g)], [(.int x2)]) w
    rw [← hrl] at x2t
    refine s_if 125 110 rfl rfl rfl (fun (h3 : x2.toInt = 0) => ?_) (fun (h3 : ¬ (x2.toInt = 0)) => ?_)
    · --
      refine aw_step (f1 := (128, [some (.ref 65), some (.int bo), some (.int c), some (.int th), some (.int wh), some (.int wa), some (.int is), some (.int (g + Int32.ofInt 1))], [])) (w1 := w) rfl rfl ?_
      obtain ⟨x4, x4e⟩ : ∃ z, z = (g + Int32.ofInt 1) := ⟨_, rfl⟩
      have x4t : x4.toInt = g.toInt + (1) := by rw [x4e]; exact n_add (y := Int32.ofInt (1)) (by show _ ≤ _ + (1 : Int); omega) (by show _ + (1 : Int) ≤ _; omega)
      rw [← x4e]
      refine aw_step (f1 := (94, [some (.ref 65), some (.int bo), some (.int c), some (.int th), some (.int wh), some (.int wa), some (.int is), some (.int x4)], [])) (w1 := w) rfl rfl ?_
      have ne : g.toInt.toNat ≠ b := by
        intro e
        rw [← e] at hb2 hb3
        omega
      exact ih x4 (by omega) (by omega) (by omega)
    · --
      refine aw_step (f1 := (111, [some (.ref 65), some (.int bo), some (.int c), some (.int th), some (.int wh), some (.int wa), some (.int is), some (.int g)], [(.ref 65)])) (w1 := w) rfl rfl ?_
      refine aw_step (f1 := (113, [some (.ref 65), some (.int bo), some (.int c), some (.int th), some (.int wh), some (.int wa), some (.int is), some (.int g)], [(.int g), (.ref 65)])) (w1 := w) rfl rfl ?_
      refine aw_step (f1 := (115, [some (.ref 65), some (.int bo), some (.int c), some (.int th), some (.int wh), some (.int wa), some (.int is), some (.int g)], [(.int wh), (.int g), (.ref 65)])) (w1 := w) rfl rfl ?_
      refine s_cv (z := 173) (p := 65) (as := [(.int g), (.int wh)]) (st1 := []) J 118 rfl rfl rfl rfl rfl rfl rfl rfl (Nat.le_of_ble_eq_true rfl) (Nat.le_of_ble_eq_true rfl) (q_worstFrom g wh ⟨by omega, by omega⟩ ⟨by omega, by omega⟩ J.1) ?_
      rintro _ _ ⟨rfl, x5, rfl, x5t⟩
      refine ⟨rfl, ?_⟩
      show aw none _ 176 _ (118, [some (.ref 65), some (.int bo), some (.int c), some (.int th), some (.int wh), some (.int wa), some (.int is), some (.int g)], [(.int x5)]) w
      have x5b := wsT_b (r := rI w 86) (y := rL w 75 wh.toInt.toNat) (g := g.toInt.toNat) (t := wh.toInt.toNat) (sz := (szM w).toNat) (rds_b J.1) (by omega) (by have := szM_in J.1; omega)
      refine s_i (pc1 := 119) (ls1 := [some (.ref 65), some (.int bo), some (.int c), some (.int th), some (.int wh), some (.int wa), some (.int is), some (.int g)]) (st1 := [(.int x5)]) rfl rfl fun x6 e7 => ?_
      have e7t : x6.toInt = 1 := by rw [e7]; rfl
      refine s_i (pc1 := 120) (ls1 := [some (.ref 65), some (.int bo), some (.int c), some (.int th), some (.int wh), some (.int wa), some (.int is), some (.int g)]) (st1 := []) rfl rfl fun x8 e9 => ?_
      have e9 : x8 = x5 + x6 := e9
      have e9t : x8.toInt = x5.toInt + x6.toInt := by rw [e9]; exact n_add (by omega) (by omega)
      refine aw_step (f1 := (122, [some (.ref 65), some (.int bo), some (.int c), some (.int th), some (.int wh), some (.int wa), some (.int is), some (.int g)], [(.int is), (.int x8)])) (w1 := w) rfl rfl ?_
      refine s_ic 131 125 rfl rfl rfl (fun (h10 : x8.toInt = is.toInt) => ?_) (fun (h10 : ¬ (x8.toInt = is.toInt)) => ?_)
      · --
        refine aw_step (f1 := (133, [some (.ref 65), some (.int bo), some (.int c), some (.int th), some (.int wh), some (.int wa), some (.int is), some (.int g)], [(.int g)])) (w1 := w) rfl rfl ?_
        refine aw_ret (v := some (.int g)) rfl rfl ?_
        exact ⟨J, g, rfl⟩
      · --
        refine aw_step (f1 := (128, [some (.ref 65), some (.int bo), some (.int c), some (.int th), some (.int wh), some (.int wa), some (.int is), some (.int (g + Int32.ofInt 1))], [])) (w1 := w) rfl rfl ?_
        obtain ⟨x11, x11e⟩ : ∃ z, z = (g + Int32.ofInt 1) := ⟨_, rfl⟩
        have x11t : x11.toInt = g.toInt + (1) := by rw [x11e]; exact n_add (y := Int32.ofInt (1)) (by show _ ≤ _ + (1 : Int); omega) (by show _ + (1 : Int) ≤ _; omega)
        rw [← x11e]
        refine aw_step (f1 := (94, [some (.ref 65), some (.int bo), some (.int c), some (.int th), some (.int wh), some (.int wa), some (.int is), some (.int x11)], [])) (w1 := w) rfl rfl ?_
        have ne : g.toInt.toNat ≠ b := by
          intro e
          rw [← e] at hb2 hb3
          omega
        exact ih x11 (by omega) (by omega) (by omega)
theorem q_guard {d : Nat} {w : am_W} (bo c th wh wa : Int32) (I : ab_inv ab_TT ab_sets w) : aw none (d + 6) 176 (QS w) (0, am_entry 176 [.ref 65, .int bo, .int c, .int th, .int wh, .int wa], []) w := by
  have J : ab_J ab_TT ab_sets ab_WR w w := ⟨I, ab_fr.rf⟩
  have sz := szM_in I
  show aw none (d + 6) 176 _ (0, [some (.ref 65), some (.int bo), some (.int c), some (.int th), some (.int wh), some (.int wa), none, none], []) w
  refine aw_step (f1 := (1, [some (.ref 65), some (.int bo), some (.int c), some (.int th), some (.int wh), some (.int wa), none, none], [(.ref 65)])) (w1 := w) rfl rfl ?_
  refine aw_step (f1 := (2, [some (.ref 65), some (.int bo), some (.int c), some (.int th), some (.int wh), some (.int wa), none, none], [(.int bo), (.ref 65)])) (w1 := w) rfl rfl ?_
  refine aw_step (f1 := (3, [some (.ref 65), some (.int bo), some (.int c), some (.int th), some (.int wh), some (.int wa), none, none], [(.int c), (.int bo), (.ref 65)])) (w1 := w) rfl rfl ?_
  refine aw_step (f1 := (5, [some (.ref 65), some (.int bo), some (.int c), some (.int th), some (.int wh), some (.int wa), none, none], [(.int wh), (.int c), (.int bo), (.ref 65)])) (w1 := w) rfl rfl ?_
  refine s_cv (z := 143) (p := 65) (as := [(.int bo), (.int c), (.int wh)]) (st1 := []) J 8 rfl rfl rfl rfl rfl rfl rfl rfl (Nat.le_of_ble_eq_true rfl) (Nat.le_of_ble_eq_true rfl) (q_isAsked bo c wh J.1) ?_
  rintro _ _ ⟨rfl, x1, rfl, x1t⟩
  refine ⟨rfl, ?_⟩
  show aw none _ 176 _ (8, [some (.ref 65), some (.int bo), some (.int c), some (.int th), some (.int wh), some (.int wa), none, none], [(.int x1)]) w
  have x1s := szM_in J.1
  refine s_if 18 11 rfl rfl rfl (fun (h2 : x1.toInt = 0) => ?_) (fun (h2 : ¬ (x1.toInt = 0)) => ?_)
  · --
    refine s_i (pc1 := 19) (ls1 := [some (.ref 65), some (.int bo), some (.int c), some (.int th), some (.int wh), some (.int wa), none, none]) (st1 := []) rfl rfl fun x3 e4 => ?_
    have e4t : x3.toInt = -1 := by rw [e4]; rfl
    refine aw_ret (v := some (.int x3)) rfl rfl ?_
    exact ⟨J, x3, rfl⟩
  · --
    refine aw_step (f1 := (12, [some (.ref 65), some (.int bo), some (.int c), some (.int th), some (.int wh), some (.int wa), none, none], [(.int th)])) (w1 := w) rfl rfl ?_
    refine s_cs (z := 116) (as := [(.int th)]) (st1 := []) 15 rfl rfl rfl rfl rfl rfl (Nat.le_of_ble_eq_true rfl) (Nat.le_of_ble_eq_true rfl) (Nat.le_of_ble_eq_true rfl) (q_areBoots th) ?_
    rintro _ _ ⟨rfl, x5, rfl, x5t⟩
    refine ⟨rfl, ?_⟩
    show aw none _ 176 _ (15, [some (.ref 65), some (.int bo), some (.int c), some (.int th), some (.int wh), some (.int wa), none, none], [(.int x5)]) w
    refine s_if 20 18 rfl rfl rfl (fun (h6 : ¬ x5.toInt = 0) => ?_) (fun (h6 : ¬ (¬ x5.toInt = 0)) => ?_)
    · --
      refine aw_step (f1 := (22, [some (.ref 65), some (.int bo), some (.int c), some (.int th), some (.int wh), some (.int wa), none, none], [(.int wa)])) (w1 := w) rfl rfl ?_
      refine s_l (pc1 := 23) (ls1 := [some (.ref 65), some (.int bo), some (.int c), some (.int th), some (.int wh), some (.int wa), none, none]) (st1 := []) rfl rfl fun y7 e8 => ?_
      have e8t : y7.toInt = wa.toInt := by rw [e8]; exact Int32.toInt_toInt64 wa
      refine s_l (pc1 := 24) (ls1 := [some (.ref 65), some (.int bo), some (.int c), some (.int th), some (.int wh), some (.int wa), none, none]) (st1 := [(.long y7)]) rfl rfl fun y9 e10 => ?_
      have e10t : y9.toInt = 0 := by rw [e10]; rfl
      refine s_l (pc1 := 25) (ls1 := [some (.ref 65), some (.int bo), some (.int c), some (.int th), some (.int wh), some (.int wa), none, none]) (st1 := [(.long y9), (.long y7)]) rfl rfl fun y11 e12 => ?_
      have e12t : y11.toInt = 1 := by rw [e12]; rfl
      refine s_cs (z := 108) (as := [(.long y7), (.long y9), (.long y11)]) (st1 := []) 28 rfl rfl rfl rfl rfl rfl (Nat.le_of_ble_eq_true rfl) (Nat.le_of_ble_eq_true rfl) (Nat.le_of_ble_eq_true rfl) (q_in2 y7 y9 y11) ?_
      rintro _ _ ⟨rfl, x13, rfl, x13t⟩
      refine ⟨rfl, ?_⟩
      show aw none _ 176 _ (28, [some (.ref 65), some (.int bo), some (.int c), some (.int th), some (.int wh), some (.int wa), none, none], [(.int x13)]) w
      refine s_if 34 31 rfl rfl rfl (fun (h14 : ¬ x13.toInt = 0) => ?_) (fun (h14 : ¬ (¬ x13.toInt = 0)) => ?_)
      · --
        refine aw_step (f1 := (35, [some (.ref 65), some (.int bo), some (.int c), some (.int th), some (.int wh), some (.int wa), none, none], [(.ref 65)])) (w1 := w) rfl rfl ?_
        refine aw_step (f1 := (36, [some (.ref 65), some (.int bo), some (.int c), some (.int th), some (.int wh), some (.int wa), none, none], [(.int bo), (.ref 65)])) (w1 := w) rfl rfl ?_
        refine s_cv (z := 133) (p := 65) (as := [(.int bo)]) (st1 := []) J 39 rfl rfl rfl rfl rfl rfl rfl rfl (Nat.le_of_ble_eq_true rfl) (Nat.le_of_ble_eq_true rfl) (q_putOn bo ⟨by omega, by omega⟩ J.1) ?_
        rintro _ w15 ⟨rfl, J16c, w15o, w15p⟩
        have J16 := J.trans J16c
        refine ⟨am_len2 J J16c, ?_⟩
        show aw none _ 176 _ (39, [some (.ref 65), some (.int bo), some (.int c), some (.int th), some (.int wh), some (.int wa), none, none], []) w15
        have zo1 := w15o.sz (by decide)
        have lo1 := w15o.ld (by decide) (by decide)
        refine aw_step (f1 := (40, [some (.ref 65), some (.int bo), some (.int c), some (.int th), some (.int wh), some (.int wa), none, none], [(.ref 65)])) (w1 := w15) rfl rfl ?_
        refine aw_step (f1 := (41, [some (.ref 65), some (.int bo), some (.int c), some (.int th), some (.int wh), some (.int wa), none, none], [(.int th), (.ref 65)])) (w1 := w15) rfl rfl ?_
        refine s_cv (z := 134) (p := 65) (as := [(.int th)]) (st1 := []) J16 44 rfl rfl rfl rfl rfl rfl rfl rfl (Nat.le_of_ble_eq_true rfl) (Nat.le_of_ble_eq_true rfl) (q_layOther th ⟨by omega, by omega⟩ J16.1) ?_
        rintro _ w17 ⟨rfl, J18c, w17o, w17p⟩
        have J18 := J16.trans J18c
        refine ⟨am_len2 J16 J18c, ?_⟩
        show aw none _ 176 _ (44, [some (.ref 65), some (.int bo), some (.int c), some (.int th), some (.int wh), some (.int wa), none, none], []) w17
        have zo2 := w17o.sz (by decide)
        have lo2 := w17o.ld (by decide) (by decide)
        refine aw_step (f1 := (45, [some (.ref 65), some (.int bo), some (.int c), some (.int th), some (.int wh), some (.int wa), none, none], [(.ref 65)])) (w1 := w17) rfl rfl ?_
        refine s_cv (z := 175) (p := 65) (as := []) (st1 := []) J18 48 rfl rfl rfl rfl rfl rfl rfl rfl (Nat.le_of_ble_eq_true rfl) (Nat.le_of_ble_eq_true rfl) (q_findRounds J18.1) ?_
        rintro _ w19 ⟨rfl, J20c, w19o, w19p, w19q⟩
        have J20 := J18.trans J20c
        refine ⟨am_len2 J18 J20c, ?_⟩
        show aw none _ 176 _ (48, [some (.ref 65), some (.int bo), some (.int c), some (.int th), some (.int wh), some (.int wa), none, none], []) w19
        refine aw_step (f1 := (49, [some (.ref 65), some (.int bo), some (.int c), some (.int th), some (.int wh), some (.int wa), none, none], [(.ref 65)])) (w1 := w19) rfl rfl ?_
        refine s_gr 86 J20 52 rfl rfl rfl rfl rfl rfl ?_
        refine s_i (pc1 := 54) (ls1 := [some (.ref 65), some (.int bo), some (.int c), some (.int th), some (.int wh), some (.int wa), none, none]) (st1 := [(.ref 86)]) rfl rfl fun x21 e22 => ?_
        have e22t : x21.toInt = 36 := by rw [e22]; rfl
        refine aw_step (f1 := (55, [some (.ref 65), some (.int bo), some (.int c), some (.int th), some (.int wh), some (.int wa), none, none], [(.int c), (.int x21), (.ref 86)])) (w1 := w19) rfl rfl ?_
        refine s_i (pc1 := 56) (ls1 := [some (.ref 65), some (.int bo), some (.int c), some (.int th), some (.int wh), some (.int wa), none, none]) (st1 := [(.ref 86)]) rfl rfl fun x23 e24 => ?_
        have e24 : x23 = x21 * c := e24
        have e24t : x23.toInt = 36 * c.toInt := by rw [e24, n_mul (by rw [e22t]; omega) (by rw [e22t]; omega), e22t]
        refine aw_step (f1 := (58, [some (.ref 65), some (.int bo), some (.int c), some (.int th), some (.int wh), some (.int wa), none, none], [(.int wh), (.int x23), (.ref 86)])) (w1 := w19) rfl rfl ?_
        refine s_i (pc1 := 59) (ls1 := [some (.ref 65), some (.int bo), some (.int c), some (.int th), some (.int wh), some (.int wa), none, none]) (st1 := [(.ref 86)]) rfl rfl fun x25 e26 => ?_
        have e26 : x25 = x23 + wh := e26
        have e26t : x25.toInt = x23.toInt + wh.toInt := by rw [e26]; exact n_add (by omega) (by omega)
        --
        refine s_ia J20 60 rfl rfl rfl rfl (by omega) (by omega) fun x27 x27a x27b x27f => ?_
        have hr := rI_of x27f
        rw [show x25.toInt.toNat = 36 * c.toInt.toNat + wh.toInt.toNat by omega] at hr
        have lc : ldM w17 (c.toInt.toNat : Int) := by rw [lo2, lo1, show ((c.toInt.toNat : Nat) : Int) = c.toInt by omega]; unfold ldM; omega
        have lw : ldM w17 (wh.toInt.toNat : Int) := by rw [lo2, lo1, show ((wh.toInt.toNat : Nat) : Int) = wh.toInt by omega]; unfold ldM; omega
        have fb : x27.toInt < 100000 → c.toInt ≠ wh.toInt → gB w17 w19 c.toInt.toNat wh.toInt.toNat = x27.toInt := by
          intro q1 q2
          have f1 := w19p.2 c.toInt.toNat wh.toInt.toNat (by omega) (by omega) (by omega) (by omega)
          have f2 := w19q c.toInt.toNat wh.toInt.toNat (by omega) (by omega) (by omega) (by omega) lc lw
          omega
        have f0 : c.toInt = wh.toInt → x27.toInt = 0 := by
          intro q
          have := w19p.1 c.toInt.toNat (by omega)
          rw [show 36 * c.toInt.toNat + wh.toInt.toNat = 36 * c.toInt.toNat + c.toInt.toNat by omega] at hr
          omega
        refine aw_step (f1 := (62, [some (.ref 65), some (.int bo), some (.int c), some (.int th), some (.int wh), some (.int wa), some (.int x27), none], [])) (w1 := w19) rfl rfl ?_
        refine aw_step (f1 := (64, [some (.ref 65), some (.int bo), some (.int c), some (.int th), some (.int wh), some (.int wa), some (.int x27), none], [(.int x27)])) (w1 := w19) rfl rfl ?_
        refine s_i (pc1 := 66) (ls1 := [some (.ref 65), some (.int bo), some (.int c), some (.int th), some (.int wh), some (.int wa), some (.int x27), none]) (st1 := [(.int x27)]) rfl rfl fun x28 e29 => ?_
        have e29t : x28.toInt = 100000 := by rw [e29]; rfl
        refine s_ic 80 69 rfl rfl rfl (fun (h30 : x27.toInt = x28.toInt) => ?_) (fun (h30 : ¬ (x27.toInt = x28.toInt)) => ?_)
        · --
          refine s_i (pc1 := 82) (ls1 := [some (.ref 65), some (.int bo), some (.int c), some (.int th), some (.int wh), some (.int wa), some (.int x27), none]) (st1 := []) rfl rfl fun x31 e32 => ?_
          have e32t : x31.toInt = -6 := by rw [e32]; rfl
          refine aw_ret (v := some (.int x31)) rfl rfl ?_
          exact ⟨J20, x31, rfl⟩
        · --
          refine aw_step (f1 := (71, [some (.ref 65), some (.int bo), some (.int c), some (.int th), some (.int wh), some (.int wa), some (.int x27), none], [(.int x27)])) (w1 := w19) rfl rfl ?_
          refine s_if 83 74 rfl rfl rfl (fun (h33 : ¬ x27.toInt = 0) => ?_) (fun (h33 : ¬ (¬ x27.toInt = 0)) => ?_)
          · --
            refine aw_step (f1 := (85, [some (.ref 65), some (.int bo), some (.int c), some (.int th), some (.int wh), some (.int wa), some (.int x27), none], [(.int wa)])) (w1 := w19) rfl rfl ?_
            refine s_if 91 88 rfl rfl rfl (fun (h34 : ¬ wa.toInt = 0) => ?_) (fun (h34 : ¬ (¬ wa.toInt = 0)) => ?_)
            · --
              refine s_i (pc1 := 92) (ls1 := [some (.ref 65), some (.int bo), some (.int c), some (.int th), some (.int wh), some (.int wa), some (.int x27), none]) (st1 := []) rfl rfl fun x35 e36 => ?_
              have e36t : x35.toInt = 0 := by rw [e36]; rfl
              refine aw_step (f1 := (94, [some (.ref 65), some (.int bo), some (.int c), some (.int th), some (.int wh), some (.int wa), some (.int x27), some (.int x35)], [])) (w1 := w19) rfl rfl ?_
              have fb := fb (by have := x27b; omega) (by omega)
              obtain ⟨b, b1, b2, b3⟩ := bsN_at (r := rI w19 86) (x := rL w17 74 c.toInt.toNat) (y := rL w17 75 wh.toInt.toNat) (g := c.toInt.toNat) (t := wh.toInt.toNat) (sz := (szM w17).toNat) (szM w17).toNat (by
                apply Classical.byContradiction
                intro q
                have := bsN_le (r := rI w19 86) (x := rL w17 74 c.toInt.toNat) (y := rL w17 75 wh.toInt.toNat) (g := c.toInt.toNat) (t := wh.toInt.toNat) (sz := (szM w17).toNat) (szM w17).toNat
                unfold gB bst at fb
                rw [if_pos (by omega)] at fb
                omega)
              unfold gB bst at fb
              rw [if_neg (by
                intro q
                rw [q] at fb
                rw [if_pos rfl] at fb
                omega)] at fb
              exact q_grW J20 bo c th wh wa x27 ⟨by omega, by omega⟩ ⟨by omega, by omega⟩ b (by omega) (by rw [w19o.rLe (by decide)]; exact b2) (by rw [w19o.rLe (by decide), w19o.sz (by decide), b3]; omega) 37 x35 (by omega) (by omega) (by omega)
            · --
              refine aw_step (f1 := (90, [some (.ref 65), some (.int bo), some (.int c), some (.int th), some (.int wh), some (.int wa), some (.int x27), none], [(.int x27)])) (w1 := w19) rfl rfl ?_
              refine aw_ret (v := some (.int x27)) rfl rfl ?_
              exact ⟨J20, x27, rfl⟩
          · --
            refine aw_step (f1 := (76, [some (.ref 65), some (.int bo), some (.int c), some (.int th), some (.int wh), some (.int wa), some (.int x27), none], [(.int wa)])) (w1 := w19) rfl rfl ?_
            refine s_i (pc1 := 77) (ls1 := [some (.ref 65), some (.int bo), some (.int c), some (.int th), some (.int wh), some (.int wa), some (.int x27), none]) (st1 := [(.int wa)]) rfl rfl fun x37 e38 => ?_
            have e38t : x37.toInt = 1 := by rw [e38]; rfl
            refine s_ic 83 80 rfl rfl rfl (fun (h39 : ¬ wa.toInt = x37.toInt) => ?_) (fun (h39 : ¬ (¬ wa.toInt = x37.toInt)) => ?_)
            · --
              refine aw_step (f1 := (85, [some (.ref 65), some (.int bo), some (.int c), some (.int th), some (.int wh), some (.int wa), some (.int x27), none], [(.int wa)])) (w1 := w19) rfl rfl ?_
              refine s_if 91 88 rfl rfl rfl (fun (h40 : ¬ wa.toInt = 0) => ?_) (fun (h40 : ¬ (¬ wa.toInt = 0)) => ?_)
              · --
                refine s_i (pc1 := 92) (ls1 := [some (.ref 65), some (.int bo), some (.int c), some (.int th), some (.int wh), some (.int wa), some (.int x27), none]) (st1 := []) rfl rfl fun x41 e42 => ?_
                have e42t : x41.toInt = 0 := by rw [e42]; rfl
                refine aw_step (f1 := (94, [some (.ref 65), some (.int bo), some (.int c), some (.int th), some (.int wh), some (.int wa), some (.int x27), some (.int x41)], [])) (w1 := w19) rfl rfl ?_
                have fb := fb (by have := x27b; omega) (by omega)
                obtain ⟨b, b1, b2, b3⟩ := bsN_at (r := rI w19 86) (x := rL w17 74 c.toInt.toNat) (y := rL w17 75 wh.toInt.toNat) (g := c.toInt.toNat) (t := wh.toInt.toNat) (sz := (szM w17).toNat) (szM w17).toNat (by
                  apply Classical.byContradiction
                  intro q
                  have := bsN_le (r := rI w19 86) (x := rL w17 74 c.toInt.toNat) (y := rL w17 75 wh.toInt.toNat) (g := c.toInt.toNat) (t := wh.toInt.toNat) (sz := (szM w17).toNat) (szM w17).toNat
                  unfold gB bst at fb
                  rw [if_pos (by omega)] at fb
                  omega)
                unfold gB bst at fb
                rw [if_neg (by
                  intro q
                  rw [q] at fb
                  rw [if_pos rfl] at fb
                  omega)] at fb
                exact q_grW J20 bo c th wh wa x27 ⟨by omega, by omega⟩ ⟨by omega, by omega⟩ b (by omega) (by rw [w19o.rLe (by decide)]; exact b2) (by rw [w19o.rLe (by decide), w19o.sz (by decide), b3]; omega) 37 x41 (by omega) (by omega) (by omega)
              · --
                refine aw_step (f1 := (90, [some (.ref 65), some (.int bo), some (.int c), some (.int th), some (.int wh), some (.int wa), some (.int x27), none], [(.int x27)])) (w1 := w19) rfl rfl ?_
                refine aw_ret (v := some (.int x27)) rfl rfl ?_
                exact ⟨J20, x27, rfl⟩
            · --
              refine s_i (pc1 := 82) (ls1 := [some (.ref 65), some (.int bo), some (.int c), some (.int th), some (.int wh), some (.int wa), some (.int x27), none]) (st1 := []) rfl rfl fun x43 e44 => ?_
              have e44t : x43.toInt = -6 := by rw [e44]; rfl
              refine aw_ret (v := some (.int x43)) rfl rfl ?_
              exact ⟨J20, x43, rfl⟩
      · --
        refine s_i (pc1 := 33) (ls1 := [some (.ref 65), some (.int bo), some (.int c), some (.int th), some (.int wh), some (.int wa), none, none]) (st1 := []) rfl rfl fun x45 e46 => ?_
        have e46t : x45.toInt = -2 := by rw [e46]; rfl
        refine aw_ret (v := some (.int x45)) rfl rfl ?_
        exact ⟨J, x45, rfl⟩
    · --
      refine s_i (pc1 := 19) (ls1 := [some (.ref 65), some (.int bo), some (.int c), some (.int th), some (.int wh), some (.int wa), none, none]) (st1 := []) rfl rfl fun x47 e48 => ?_
      have e48t : x47.toInt = -1 := by rw [e48]; rfl
      refine aw_ret (v := some (.int x47)) rfl rfl ?_
      exact ⟨J, x47, rfl⟩
