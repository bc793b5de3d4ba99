/-! ===== worn, changed, time of the model ===== -/
noncomputable def bfI (E : Nat → Nat → Int → Prop) (f : Nat) (r : Nat → Int) : Prop := r f ≤ 0 ∧ ∀ t, t < 72 → r t = 100000 ∨ (r t < 100000 ∧ ∃ n, wk E f n t (r t))
noncomputable def psI (E : Nat → Nat → Int → Prop) (r0 : Nat → Int) (m : Int) (r : Nat → Int) (C : Nat → Nat → Int → Prop) : Prop := (m = 1 ∧ sm r 72 < sm r0 72) ∨ (m = 0 ∧ (∀ j, r j = r0 j) ∧ ∀ s t e, C s t e → r0 s < 100000 → E s t e → r0 t ≤ r0 s + e)
noncomputable def cpI (r r' : Nat → Int) (t : Nat) (is b : Int) : Prop := (b = 1 ∧ is < r t ∧ r' t = is ∧ ∀ j, j ≠ t → r' j = r j) ∨ (b = 0 ∧ r t ≤ is ∧ ∀ j, r' j = r j)
theorem cpI.le {r r' : Nat → Int} {t : Nat} {is b : Int} (h : cpI r r' t is b) (j : Nat) : r' j ≤ r j := by
  rcases h with ⟨h1, h2, h3, h4⟩ | ⟨h1, h2, h3⟩
  · by_cases q : j = t
    · subst q; omega
    · rw [h4 j q]; exact Int.le_refl _
  · rw [h3 j]; exact Int.le_refl _
section PS
variable {E : Nat → Nat → Int → Prop} {f : Nat} {r0 r r' : Nat → Int} {m m' is b : Int} {C C' : Nat → Nat → Int → Prop}
theorem psI.m01 (h : psI E r0 m r C) : m = 1 ∨ m = 0 := by
  rcases h with h | h
  · exact Or.inl h.1
  · exact Or.inr h.1
theorem psI.sc (h : psI E r0 m r C) : (m = 1 ∧ sm r 72 < sm r0 72) ∨ (m = 0 ∧ sm r 72 = sm r0 72) := by
  rcases h with h | ⟨h1, h2, h3⟩
  · exact Or.inl h
  · exact Or.inr ⟨h1, Int.le_antisymm (sm_le fun j _ => by rw [h2 j]; exact Int.le_refl _) (sm_le fun j _ => by rw [h2 j]; exact Int.le_refl _)⟩
theorem psI.ck {s t : Nat} {e : Int} (h : psI E r0 m r C) (g : cpI r r' t is b) (ht : t < 72) (hi : is = r s + e) (hm : (m' = 1 ∧ (m = 1 ∨ b = 1)) ∨ (m' = 0 ∧ m = 0 ∧ b = 0)) (hC : ∀ s' t' e', C' s' t' e' → E s' t' e' → C s' t' e' ∨ (s' = s ∧ t' = t ∧ e' = e)) : psI E r0 m' r' C' := by
  have le := sm_le (r := r) (r' := r') (n := 72) (fun j _ => g.le j)
  rcases hm with ⟨m1, m2⟩ | ⟨m1, m2, m3⟩
  · refine Or.inl ⟨m1, ?_⟩
    rcases h with ⟨h1, h2⟩ | ⟨h1, h2, h3⟩
    · omega
    · have e0 := sm_le (r := r0) (r' := r) (n := 72) (fun j _ => by rw [h2 j]; exact Int.le_refl _)
      rcases g with ⟨g1, g2, g3, g4⟩ | ⟨g1, g2, g3⟩
      · have lt := sm_lt (r := r) (r' := r') (k := t) (by omega) (n := 72) (fun j _ => by
          by_cases q : j = t
          · subst q; omega
          · rw [g4 j q]; exact Int.le_refl _) ht
        omega
      · omega
  · rcases h with ⟨h1, h2⟩ | ⟨h1, h2, h3⟩
    · omega
    · rcases g with ⟨g1, g2, g3, g4⟩ | ⟨g1, g2, g3⟩
      · omega
      · refine Or.inr ⟨m1, fun j => by rw [g3 j, h2 j], fun s' t' e' c1 c2 c3 => ?_⟩
        rcases hC s' t' e' c1 c3 with u | ⟨u, v, x⟩
        · exact h3 s' t' e' u c2 c3
        · rw [u, v, x, ← h2 t, ← h2 s]; omega
theorem psI.no (h : psI E r0 m r C) (hm : m' = m) (hC : ∀ s t e, C' s t e → E s t e → C s t e) : psI E r0 m' r C' := by
  rw [hm]
  rcases h with h | ⟨h1, h2, h3⟩
  · exact Or.inl h
  · exact Or.inr ⟨h1, h2, fun s t e c1 c2 c3 => h3 s t e (hC s t e c1 c3) c2 c3⟩
theorem psI.sk {c : Nat} (h : psI E r0 m r C) (hc : 100000 ≤ r c) (hC : ∀ s t e, C' s t e → C s t e ∨ s = c) : psI E r0 m r C' := by
  rcases h with h | ⟨h1, h2, h3⟩
  · exact Or.inl h
  · refine Or.inr ⟨h1, h2, fun s t e c1 c2 c3 => ?_⟩
    rcases hC s t e c1 with u | u
    · exact h3 s t e u c2 c3
    · rw [u, ← h2 c] at c2; omega
theorem bfI.ck {s t : Nat} {e : Int} (h : bfI E f r) (g : cpI r r' t is b) (hs : s < 72) (hr : r s < 100000) (he : E s t e) (hi : is = r s + e) : bfI E f r' := by
  obtain ⟨h1, h2⟩ := h
  refine ⟨by have := g.le f; omega, fun u hu => ?_⟩
  rcases g with ⟨g1, g2, g3, g4⟩ | ⟨g1, g2, g3⟩
  · by_cases q : u = t
    · subst q
      have b1 : r u ≤ 100000 := by
        rcases h2 u hu with a | a
        · omega
        · have := a.1; omega
      refine Or.inr ⟨by omega, ?_⟩
      rcases h2 s hs with a | ⟨a, n, a2⟩
      · omega
      · exact ⟨n + 1, s, r s, e, a2, he, by omega⟩
    · rw [g4 u q]; exact h2 u hu
  · rw [g3 u]; exact h2 u hu
end PS
noncomputable def CW (c d s t : Nat) (_ : Int) : Prop := s < c ∨ (s = c ∧ t < d)
theorem EW_i {V : Nat → Int} {L : Int} {s t : Nat} {e : Int} (h : s < 36) : ET V 1 1 0 0 L 0 s t e ↔ ((s : Int) < szV V ∧ V (40 + s) ≠ 126) ∧ eV V L s t ∧ e = 1 + (if V (40 + t) = 94 then 1 else 0) := by
  constructor
  · rintro ⟨sd, c, h1, h2, h3, h4⟩
    have e1 : sd = 0 := by omega
    subst e1
    have e2 : c = s := by omega
    subst e2
    rcases h4 with ⟨d, a1, a2, a3⟩ | ⟨a0, -⟩ | ⟨a0, -⟩
    · have e3 : d = t := by omega
      subst e3
      rw [if_pos rfl] at a1
      exact ⟨h3.2, a1, a3⟩
    · omega
    · omega
  · rintro ⟨h1, h2, h3⟩
    exact ⟨0, s, by omega, by omega, ⟨h, h1⟩, Or.inl ⟨t, by rw [if_pos rfl]; exact h2, by omega, h3⟩⟩
theorem EM_i {V : Nat → Int} {L a b : Int} {s t : Nat} {e : Int} (h : s < 36) (hb : 0 < b) : ET V a 0 b 0 L 0 s t e ↔ ((s : Int) < szV V ∧ V (40 + s) ≠ 126) ∧ ((eV V L s t ∧ e = a) ∨ (eV V 1 s t ∧ e = b)) := by
  constructor
  · rintro ⟨sd, c, h1, h2, h3, h4⟩
    have e1 : sd = 0 := by omega
    subst e1
    have e2 : c = s := by omega
    subst e2
    refine ⟨h3.2, ?_⟩
    rcases h4 with ⟨d, a1, a2, a3⟩ | ⟨a0, d, a1, a2, a3⟩ | ⟨a0, -⟩
    · have e3 : d = t := by omega
      subst e3
      rw [if_pos rfl] at a1
      exact Or.inl ⟨a1, by rw [a3]; split <;> omega⟩
    · have e3 : d = t := by omega
      subst e3
      exact Or.inr ⟨a1, a3⟩
    · omega
  · rintro ⟨h1, h2⟩
    refine ⟨0, s, by omega, by omega, ⟨h, h1⟩, ?_⟩
    rcases h2 with ⟨a1, a2⟩ | ⟨a1, a2⟩
    · exact Or.inl ⟨t, by rw [if_pos rfl]; exact a1, by omega, by rw [a2]; split <;> omega⟩
    · exact Or.inr (Or.inl ⟨hb, t, a1, by omega, a2⟩)
/-- without changes the second side is never come to -/
theorem wk_36 {V : Nat → Int} {ps oh st L0 L1 : Int} {f : Nat} (hz : szV V ≤ 36) (hf : f < 36) : ∀ {n t : Nat} {x : Int}, wk (ET V ps oh st 0 L0 L1) f n t x → t < 36
  | 0, t, x, h => by have h : t = f ∧ x = 0 := h; omega
  | n + 1, t, x, ⟨s, c0, e, h1, ⟨sd, c, g1, g2, g3, g4⟩, h3⟩ => by
    have i := wk_36 hz hf h1
    have e1 : sd = 0 := by omega
    subst e1
    rcases g4 with ⟨d, a1, a2, a3⟩ | ⟨a0, d, a1, a2, a3⟩ | ⟨a0, a1, a2, a3⟩
    · have := a1.1.1; omega
    · have := a1.1.1; omega
    · omega
theorem RMs.o78 {w w1 : am_W} {V : Nat → Int} (R : RMs w V) (O : only [78] w w1) : RMs w1 V := R.of O fun q a b h => by
  have := List.mem_singleton.mp h
  omega
theorem rI_78 {w : am_W} (I : ab_inv ab_TT ab_sets w) {j : Nat} (hj : j < 72) : 0 ≤ rI w 78 j ∧ rI w 78 j ≤ 100000 := rI_in I (p := 78) rfl hj
theorem f_wornI {d : Nat} {Q : Option Value → am_W → Prop} {w00 wb : am_W} {V : Nat → Int} {L : Int} (R00 : RMs wb V) (lr00 : lrV V L (rL wb 74)) (bo f t c : Int32) (hc : 0 ≤ c.toInt ∧ c.toInt < szV V) (K : ∀ (w : am_W) (more dd : Int32) (o7 : Option Value), ab_J ab_TT ab_sets ab_WR w00 w → only [78] wb w → bfI (ET V 1 1 0 0 L 0) f.toInt.toNat (rI w 78) → psI (ET V 1 1 0 0 L 0) (rI wb 78) more.toInt (rI w 78) (CW (c.toInt.toNat + 1) 0) → aw none (d + 3) 148 Q (141, [some (.ref 65), some (.int bo), some (.int f), some (.int t), some (.int more), some (.int c), some (.int dd), o7], []) w) : ∀ (m : Nat) (w : am_W) (more dd : Int32) (o7 : Option Value), (szV V - dd.toInt).toNat < m → 0 ≤ dd.toInt → dd.toInt ≤ szV V → ab_J ab_TT ab_sets ab_WR w00 w → only [78] wb w → bfI (ET V 1 1 0 0 L 0) f.toInt.toNat (rI w 78) → psI (ET V 1 1 0 0 L 0) (rI wb 78) more.toInt (rI w 78) (CW c.toInt.toNat dd.toInt.toNat) → aw none (d + 3) 148 Q (48, [some (.ref 65), some (.int bo), some (.int f), some (.int t), some (.int more), some (.int c), some (.int dd), o7], []) w := by
  intro m
  induction m with
  | zero => intro w more dd o7 p; omega
  | succ m ih =>
    intro w more dd o7 p1 p2 p3 J O B P
    have R := R00.o78 O
    have szm := szM_in J.1
    have hsz := R.sz
    have lr : lrV V L (rL w 74) := fun a b h => by rw [O.rLe (by decide)]; exact lr00 a b h
    have mb := P.m01
    have zb := ab_any32 more
    unfold ab_lo32 ab_hi32 at zb
    refine aw_step (f1 := (50, [some (.ref 65), some (.int bo), some (.int f), some (.int t), some (.int more), some (.int c), some (.int dd), o7], [(.int dd)])) (w1 := w) rfl rfl ?_
    refine aw_step (f1 := (51, [some (.ref 65), some (.int bo), some (.int f), some (.int t), some (.int more), some (.int c), some (.int dd), o7], [(.ref 65), (.int dd)])) (w1 := w) rfl rfl ?_
    refine s_cv (z := 113) (p := 65) (as := []) (st1 := [(.int dd)]) J 54 rfl rfl rfl rfl rfl rfl rfl rfl (Nat.le_of_ble_eq_true rfl) (Nat.le_of_ble_eq_true rfl) (q_cells J.1) ?_
    rintro _ _ ⟨rfl, x1, rfl, x1t⟩
    refine ⟨rfl, ?_⟩
    show aw none _ 148 _ (54, [some (.ref 65), some (.int bo), some (.int f), some (.int t), some (.int more), some (.int c), some (.int dd), o7], [(.int x1), (.int dd)]) w
    have x1s := szM_in J.1
    refine s_ic 141 57 rfl rfl rfl (fun (h2 : x1.toInt ≤ dd.toInt) => ?_) (fun (h2 : ¬ (x1.toInt ≤ dd.toInt)) => ?_)
    · --
      first
        | exact K w more dd _ J O B (P.sk (c := c.toInt.toNat) (by omega) (fun s t e q => by unfold CW at q ⊢; omega))
        | exact K w more dd _ J O B (P.no rfl (fun s t e q he => by
            by_cases u : s = c.toInt.toNat
            · have := ((EW_i (by omega)).mp he).2.1.1.1
              exact Or.inr ⟨u, by omega⟩
            · unfold CW at q ⊢; omega))
    · --
      refine aw_step (f1 := (58, [some (.ref 65), some (.int bo), some (.int f), some (.int t), some (.int more), some (.int c), some (.int dd), o7], [(.ref 65)])) (w1 := w) rfl rfl ?_
      refine s_gr 78 J 61 rfl rfl rfl rfl rfl rfl ?_
      refine aw_step (f1 := (63, [some (.ref 65), some (.int bo), some (.int f), some (.int t), some (.int more), some (.int c), some (.int dd), o7], [(.int c), (.ref 78)])) (w1 := w) rfl rfl ?_
      refine s_ia J 64 rfl rfl rfl rfl (by omega) (by omega) fun x3 x3a x3b x3f => ?_
      have x3v : x3.toInt = rI w 78 c.toInt.toNat := by rw [← rI_of x3f]
      refine s_i (pc1 := 66) (ls1 := [some (.ref 65), some (.int bo), some (.int f), some (.int t), some (.int more), some (.int c), some (.int dd), o7]) (st1 := [(.int x3)]) rfl rfl fun x4 e5 => ?_
      have e5t : x4.toInt = 100000 := by rw [e5]; rfl
      refine s_ic 141 69 rfl rfl rfl (fun (h6 : x4.toInt ≤ x3.toInt) => ?_) (fun (h6 : ¬ (x4.toInt ≤ x3.toInt)) => ?_)
      · --
        first
          | exact K w more dd _ J O B (P.sk (c := c.toInt.toNat) (by omega) (fun s t e q => by unfold CW at q ⊢; omega))
          | exact K w more dd _ J O B (P.no rfl (fun s t e q he => by
              by_cases u : s = c.toInt.toNat
              · have := ((EW_i (by omega)).mp he).2.1.1.1
                exact Or.inr ⟨u, by omega⟩
              · unfold CW at q ⊢; omega))
      · --
        --
        refine aw_step (f1 := (70, [some (.ref 65), some (.int bo), some (.int f), some (.int t), some (.int more), some (.int c), some (.int dd), o7], [(.ref 65)])) (w1 := w) rfl rfl ?_
        refine s_gr 74 J 73 rfl rfl rfl rfl rfl rfl ?_
        refine aw_step (f1 := (75, [some (.ref 65), some (.int bo), some (.int f), some (.int t), some (.int more), some (.int c), some (.int dd), o7], [(.int c), (.ref 74)])) (w1 := w) rfl rfl ?_
        refine s_la J 76 rfl rfl rfl (by omega) (by omega) fun y7 y7a y7b y7f => ?_
        have ly : rL w 74 c.toInt.toNat = n64 y7 := rL_of y7f
        have lrc := lr c.toInt.toNat dd.toInt.toNat (by omega)
        rw [ly] at lrc
        refine aw_step (f1 := (78, [some (.ref 65), some (.int bo), some (.int f), some (.int t), some (.int more), some (.int c), some (.int dd), o7], [(.int dd), (.long y7)])) (w1 := w) rfl rfl ?_
        refine s_cs (z := 110) (as := [(.long y7), (.int dd)]) (st1 := []) 81 rfl rfl rfl rfl rfl rfl (Nat.le_of_ble_eq_true rfl) (Nat.le_of_ble_eq_true rfl) (Nat.le_of_ble_eq_true rfl) (q_has y7 dd (by omega) (by omega)) ?_
        rintro _ _ ⟨rfl, x8, rfl, x8t⟩
        refine ⟨rfl, ?_⟩
        show aw none _ 148 _ (81, [some (.ref 65), some (.int bo), some (.int f), some (.int t), some (.int more), some (.int c), some (.int dd), o7], [(.int x8)]) w
        have x8l := bt_le (n64 y7) dd.toInt.toNat
        --
        refine s_if 115 84 rfl rfl rfl (fun (h9 : x8.toInt = 0) => ?_) (fun (h9 : ¬ (x8.toInt = 0)) => ?_)
        · --
          refine s_i (pc1 := 116) (ls1 := [some (.ref 65), some (.int bo), some (.int f), some (.int t), some (.int more), some (.int c), some (.int dd), o7]) (st1 := []) rfl rfl fun x10 e11 => ?_
          have e11t : x10.toInt = 0 := by rw [e11]; rfl
          refine aw_step (f1 := (118, [some (.ref 65), some (.int bo), some (.int f), some (.int t), some (.int more), some (.int c), some (.int dd), some (.int x10)], [])) (w1 := w) rfl rfl ?_
          refine aw_step (f1 := (120, [some (.ref 65), some (.int bo), some (.int f), some (.int t), some (.int more), some (.int c), some (.int dd), some (.int x10)], [(.int more)])) (w1 := w) rfl rfl ?_
          refine s_if 128 123 rfl rfl rfl (fun (h12 : ¬ more.toInt = 0) => ?_) (fun (h12 : ¬ (¬ more.toInt = 0)) => ?_)
          · --
            refine s_i (pc1 := 129) (ls1 := [some (.ref 65), some (.int bo), some (.int f), some (.int t), some (.int more), some (.int c), some (.int dd), some (.int x10)]) (st1 := []) rfl rfl fun x13 e14 => ?_
            have e14t : x13.toInt = 1 := by rw [e14]; rfl
            refine aw_step (f1 := (133, [some (.ref 65), some (.int bo), some (.int f), some (.int t), some (.int more), some (.int c), some (.int dd), some (.int x10)], [(.int x13)])) (w1 := w) rfl rfl ?_
            refine aw_step (f1 := (135, [some (.ref 65), some (.int bo), some (.int f), some (.int t), some (.int x13), some (.int c), some (.int dd), some (.int x10)], [])) (w1 := w) rfl rfl ?_
            refine aw_step (f1 := (138, [some (.ref 65), some (.int bo), some (.int f), some (.int t), some (.int x13), some (.int c), some (.int (dd + Int32.ofInt 1)), some (.int x10)], [])) (w1 := w) rfl rfl ?_
            obtain ⟨x15, x15e⟩ : ∃ z, z = (dd + Int32.ofInt 1) := ⟨_, rfl⟩
            have x15t : x15.toInt = dd.toInt + (1) := by rw [x15e]; exact n_add (y := Int32.ofInt (1)) (by show _ ≤ _ + (1 : Int); omega) (by show _ + (1 : Int) ≤ _; omega)
            rw [← x15e]
            refine aw_step (f1 := (48, [some (.ref 65), some (.int bo), some (.int f), some (.int t), some (.int x13), some (.int c), some (.int x15), some (.int x10)], [])) (w1 := w) rfl rfl ?_
            have nl : ¬ eV V L c.toInt.toNat dd.toInt.toNat ∨ V (40 + c.toInt.toNat) = 126 := by
              by_cases q : V (40 + c.toInt.toNat) = 126
              · exact Or.inr q
              · exact Or.inl fun z => by have := lrc.mpr ⟨q, z⟩; omega
            exact ih w x13 x15 _ (by omega) (by omega) (by omega) J O B (P.no (by omega) (fun s t e q he => by
              by_cases u : s = c.toInt.toNat ∧ t = dd.toInt.toNat
              · have z := (EW_i (by omega)).mp he
                rw [u.1, u.2] at z
                rcases nl with y | y
                · exact absurd z.2.1 y
                · exact absurd y z.1.2
              · unfold CW at q ⊢; omega))
          · --
            refine aw_step (f1 := (125, [some (.ref 65), some (.int bo), some (.int f), some (.int t), some (.int more), some (.int c), some (.int dd), some (.int x10)], [(.int x10)])) (w1 := w) rfl rfl ?_
            refine s_if 132 128 rfl rfl rfl (fun (h16 : x10.toInt = 0) => ?_) (fun (h16 : ¬ (x10.toInt = 0)) => ?_)
            · --
              refine s_i (pc1 := 133) (ls1 := [some (.ref 65), some (.int bo), some (.int f), some (.int t), some (.int more), some (.int c), some (.int dd), some (.int x10)]) (st1 := []) rfl rfl fun x17 e18 => ?_
              have e18t : x17.toInt = 0 := by rw [e18]; rfl
              refine aw_step (f1 := (135, [some (.ref 65), some (.int bo), some (.int f), some (.int t), some (.int x17), some (.int c), some (.int dd), some (.int x10)], [])) (w1 := w) rfl rfl ?_
              refine aw_step (f1 := (138, [some (.ref 65), some (.int bo), some (.int f), some (.int t), some (.int x17), some (.int c), some (.int (dd + Int32.ofInt 1)), some (.int x10)], [])) (w1 := w) rfl rfl ?_
              obtain ⟨x19, x19e⟩ : ∃ z, z = (dd + Int32.ofInt 1) := ⟨_, rfl⟩
              have x19t : x19.toInt = dd.toInt + (1) := by rw [x19e]; exact n_add (y := Int32.ofInt (1)) (by show _ ≤ _ + (1 : Int); omega) (by show _ + (1 : Int) ≤ _; omega)
              rw [← x19e]
              refine aw_step (f1 := (48, [some (.ref 65), some (.int bo), some (.int f), some (.int t), some (.int x17), some (.int c), some (.int x19), some (.int x10)], [])) (w1 := w) rfl rfl ?_
              have nl : ¬ eV V L c.toInt.toNat dd.toInt.toNat ∨ V (40 + c.toInt.toNat) = 126 := by
                by_cases q : V (40 + c.toInt.toNat) = 126
                · exact Or.inr q
                · exact Or.inl fun z => by have := lrc.mpr ⟨q, z⟩; omega
              exact ih w x17 x19 _ (by omega) (by omega) (by omega) J O B (P.no (by omega) (fun s t e q he => by
                by_cases u : s = c.toInt.toNat ∧ t = dd.toInt.toNat
                · have z := (EW_i (by omega)).mp he
                  rw [u.1, u.2] at z
                  rcases nl with y | y
                  · exact absurd z.2.1 y
                  · exact absurd y z.1.2
                · unfold CW at q ⊢; omega))
            · --
              refine s_i (pc1 := 129) (ls1 := [some (.ref 65), some (.int bo), some (.int f), some (.int t), some (.int more), some (.int c), some (.int dd), some (.int x10)]) (st1 := []) rfl rfl fun x20 e21 => ?_
              have e21t : x20.toInt = 1 := by rw [e21]; rfl
              refine aw_step (f1 := (133, [some (.ref 65), some (.int bo), some (.int f), some (.int t), some (.int more), some (.int c), some (.int dd), some (.int x10)], [(.int x20)])) (w1 := w) rfl rfl ?_
              refine aw_step (f1 := (135, [some (.ref 65), some (.int bo), some (.int f), some (.int t), some (.int x20), some (.int c), some (.int dd), some (.int x10)], [])) (w1 := w) rfl rfl ?_
              refine aw_step (f1 := (138, [some (.ref 65), some (.int bo), some (.int f), some (.int t), some (.int x20), some (.int c), some (.int (dd + Int32.ofInt 1)), some (.int x10)], [])) (w1 := w) rfl rfl ?_
              obtain ⟨x22, x22e⟩ : ∃ z, z = (dd + Int32.ofInt 1) := ⟨_, rfl⟩
              have x22t : x22.toInt = dd.toInt + (1) := by rw [x22e]; exact n_add (y := Int32.ofInt (1)) (by show _ ≤ _ + (1 : Int); omega) (by show _ + (1 : Int) ≤ _; omega)
              rw [← x22e]
              refine aw_step (f1 := (48, [some (.ref 65), some (.int bo), some (.int f), some (.int t), some (.int x20), some (.int c), some (.int x22), some (.int x10)], [])) (w1 := w) rfl rfl ?_
              have nl : ¬ eV V L c.toInt.toNat dd.toInt.toNat ∨ V (40 + c.toInt.toNat) = 126 := by
                by_cases q : V (40 + c.toInt.toNat) = 126
                · exact Or.inr q
                · exact Or.inl fun z => by have := lrc.mpr ⟨q, z⟩; omega
              exact ih w x20 x22 _ (by omega) (by omega) (by omega) J O B (P.no (by omega) (fun s t e q he => by
                by_cases u : s = c.toInt.toNat ∧ t = dd.toInt.toNat
                · have z := (EW_i (by omega)).mp he
                  rw [u.1, u.2] at z
                  rcases nl with y | y
                  · exact absurd z.2.1 y
                  · exact absurd y z.1.2
                · unfold CW at q ⊢; omega))
        · --
          have le := lrc.mp (by omega)
          have ee : ET V 1 1 0 0 L 0 c.toInt.toNat dd.toInt.toNat (1 + (if V (40 + dd.toInt.toNat) = 94 then 1 else 0)) := (EW_i (by omega)).mpr ⟨⟨by omega, le.1⟩, le.2, rfl⟩
          refine aw_step (f1 := (85, [some (.ref 65), some (.int bo), some (.int f), some (.int t), some (.int more), some (.int c), some (.int dd), o7], [(.ref 65)])) (w1 := w) rfl rfl ?_
          refine aw_step (f1 := (87, [some (.ref 65), some (.int bo), some (.int f), some (.int t), some (.int more), some (.int c), some (.int dd), o7], [(.int dd), (.ref 65)])) (w1 := w) rfl rfl ?_
          refine aw_step (f1 := (88, [some (.ref 65), some (.int bo), some (.int f), some (.int t), some (.int more), some (.int c), some (.int dd), o7], [(.ref 65), (.int dd), (.ref 65)])) (w1 := w) rfl rfl ?_
          refine s_gr 78 J 91 rfl rfl rfl rfl rfl rfl ?_
          refine aw_step (f1 := (93, [some (.ref 65), some (.int bo), some (.int f), some (.int t), some (.int more), some (.int c), some (.int dd), o7], [(.int c), (.ref 78), (.int dd), (.ref 65)])) (w1 := w) rfl rfl ?_
          refine s_ia J 94 rfl rfl rfl rfl (by omega) (by omega) fun x23 x23a x23b x23f => ?_
          have x23v : x23.toInt = rI w 78 c.toInt.toNat := by rw [← rI_of x23f]
          refine aw_step (f1 := (95, [some (.ref 65), some (.int bo), some (.int f), some (.int t), some (.int more), some (.int c), some (.int dd), o7], [(.ref 65), (.int x23), (.int dd), (.ref 65)])) (w1 := w) rfl rfl ?_
          refine s_gr 66 J 98 rfl rfl rfl rfl rfl rfl ?_
          refine aw_step (f1 := (100, [some (.ref 65), some (.int bo), some (.int f), some (.int t), some (.int more), some (.int c), some (.int dd), o7], [(.int dd), (.ref 66), (.int x23), (.int dd), (.ref 65)])) (w1 := w) rfl rfl ?_
          refine s_ia J 101 rfl rfl rfl rfl (by omega) (by omega) fun x24 x24a x24b x24f => ?_
          have x24v : x24.toInt = rI w 66 dd.toInt.toNat := by rw [← rI_of x24f]
          have hso : x24.toInt = V (40 + dd.toInt.toNat) := by rw [x24v]; exact R.rc (by omega)
          refine s_cs (z := 135) (as := [(.int x24)]) (st1 := [(.int x23), (.int dd), (.ref 65)]) 104 rfl rfl rfl rfl rfl rfl (Nat.le_of_ble_eq_true rfl) (Nat.le_of_ble_eq_true rfl) (Nat.le_of_ble_eq_true rfl) (q_wearOf x24) ?_
          rintro _ _ ⟨rfl, x25, rfl, x25t⟩
          refine ⟨rfl, ?_⟩
          show aw none _ 148 _ (104, [some (.ref 65), some (.int bo), some (.int f), some (.int t), some (.int more), some (.int c), some (.int dd), o7], [(.int x25), (.int x23), (.int dd), (.ref 65)]) w
          have hwe : x25.toInt = 1 + (if V (40 + dd.toInt.toNat) = 94 then 1 else 0) := by
            by_cases q : V (40 + dd.toInt.toNat) = 94
            · rw [if_pos q]; omega
            · rw [if_neg q]; omega
          refine s_i (pc1 := 105) (ls1 := [some (.ref 65), some (.int bo), some (.int f), some (.int t), some (.int more), some (.int c), some (.int dd), o7]) (st1 := [(.int dd), (.ref 65)]) rfl rfl fun x26 e27 => ?_
          have e27 : x26 = x23 + x25 := e27
          have e27t : x26.toInt = x23.toInt + x25.toInt := by rw [e27]; exact n_add (by omega) (by omega)
          refine s_cv (z := 147) (p := 65) (as := [(.int dd), (.int x26)]) (st1 := []) J 108 rfl rfl rfl rfl rfl rfl rfl rfl (Nat.le_of_ble_eq_true rfl) (Nat.le_of_ble_eq_true rfl) (q_cheapen dd x26 ⟨by omega, by omega⟩ (by omega) J.1) ?_
          rintro _ w29 ⟨x28, rfl, J30c, w29o, w29p⟩
          have J30 := J.trans J30c
          refine ⟨am_len2 J J30c, ?_⟩
          show aw none _ 148 _ (108, [some (.ref 65), some (.int bo), some (.int f), some (.int t), some (.int more), some (.int c), some (.int dd), o7], [(.int x28)]) w29
          have w29q : cpI (rI w 78) (rI w29 78) dd.toInt.toNat x26.toInt x28.toInt := w29p
          have w29b : x28.toInt = 1 ∨ x28.toInt = 0 := by rcases w29q with q | q <;> (have := q.1; omega)
          refine s_if 115 111 rfl rfl rfl (fun (h31 : x28.toInt = 0) => ?_) (fun (h31 : ¬ (x28.toInt = 0)) => ?_)
          · --
            refine s_i (pc1 := 116) (ls1 := [some (.ref 65), some (.int bo), some (.int f), some (.int t), some (.int more), some (.int c), some (.int dd), o7]) (st1 := []) rfl rfl fun x32 e33 => ?_
            have e33t : x32.toInt = 0 := by rw [e33]; rfl
            refine aw_step (f1 := (118, [some (.ref 65), some (.int bo), some (.int f), some (.int t), some (.int more), some (.int c), some (.int dd), some (.int x32)], [])) (w1 := w29) rfl rfl ?_
            refine aw_step (f1 := (120, [some (.ref 65), some (.int bo), some (.int f), some (.int t), some (.int more), some (.int c), some (.int dd), some (.int x32)], [(.int more)])) (w1 := w29) rfl rfl ?_
            refine s_if 128 123 rfl rfl rfl (fun (h34 : ¬ more.toInt = 0) => ?_) (fun (h34 : ¬ (¬ more.toInt = 0)) => ?_)
            · --
              refine s_i (pc1 := 129) (ls1 := [some (.ref 65), some (.int bo), some (.int f), some (.int t), some (.int more), some (.int c), some (.int dd), some (.int x32)]) (st1 := []) rfl rfl fun x35 e36 => ?_
              have e36t : x35.toInt = 1 := by rw [e36]; rfl
              refine aw_step (f1 := (133, [some (.ref 65), some (.int bo), some (.int f), some (.int t), some (.int more), some (.int c), some (.int dd), some (.int x32)], [(.int x35)])) (w1 := w29) rfl rfl ?_
              refine aw_step (f1 := (135, [some (.ref 65), some (.int bo), some (.int f), some (.int t), some (.int x35), some (.int c), some (.int dd), some (.int x32)], [])) (w1 := w29) rfl rfl ?_
              refine aw_step (f1 := (138, [some (.ref 65), some (.int bo), some (.int f), some (.int t), some (.int x35), some (.int c), some (.int (dd + Int32.ofInt 1)), some (.int x32)], [])) (w1 := w29) rfl rfl ?_
              obtain ⟨x37, x37e⟩ : ∃ z, z = (dd + Int32.ofInt 1) := ⟨_, rfl⟩
              have x37t : x37.toInt = dd.toInt + (1) := by rw [x37e]; exact n_add (y := Int32.ofInt (1)) (by show _ ≤ _ + (1 : Int); omega) (by show _ + (1 : Int) ≤ _; omega)
              rw [← x37e]
              refine aw_step (f1 := (48, [some (.ref 65), some (.int bo), some (.int f), some (.int t), some (.int x35), some (.int c), some (.int x37), some (.int x32)], [])) (w1 := w29) rfl rfl ?_
              have hi : x26.toInt = rI w 78 c.toInt.toNat + (1 + (if V (40 + dd.toInt.toNat) = 94 then 1 else 0)) := by omega
              exact ih w29 x35 x37 _ (by omega) (by omega) (by omega) J30 (O.trans w29o) (B.ck w29q (by omega) (by omega) ee hi) (P.ck w29q (by omega) hi (by omega) (fun s t e q he => by
                by_cases u : s = c.toInt.toNat ∧ t = dd.toInt.toNat
                · have z := (EW_i (by omega)).mp he
                  exact Or.inr ⟨u.1, u.2, by rw [z.2.2, u.2]⟩
                · left; unfold CW at q ⊢; omega))
            · --
              refine aw_step (f1 := (125, [some (.ref 65), some (.int bo), some (.int f), some (.int t), some (.int more), some (.int c), some (.int dd), some (.int x32)], [(.int x32)])) (w1 := w29) rfl rfl ?_
              refine s_if 132 128 rfl rfl rfl (fun (h38 : x32.toInt = 0) => ?_) (fun (h38 : ¬ (x32.toInt = 0)) => ?_)
              · --
                refine s_i (pc1 := 133) (ls1 := [some (.ref 65), some (.int bo), some (.int f), some (.int t), some (.int more), some (.int c), some (.int dd), some (.int x32)]) (st1 := []) rfl rfl fun x39 e40 => ?_
                have e40t : x39.toInt = 0 := by rw [e40]; rfl
                refine aw_step (f1 := (135, [some (.ref 65), some (.int bo), some (.int f), some (.int t), some (.int x39), some (.int c), some (.int dd), some (.int x32)], [])) (w1 := w29) rfl rfl ?_
                refine aw_step (f1 := (138, [some (.ref 65), some (.int bo), some (.int f), some (.int t), some (.int x39), some (.int c), some (.int (dd + Int32.ofInt 1)), some (.int x32)], [])) (w1 := w29) rfl rfl ?_
                obtain ⟨x41, x41e⟩ : ∃ z, z = (dd + Int32.ofInt 1) := ⟨_, rfl⟩
                have x41t : x41.toInt = dd.toInt + (1) := by rw [x41e]; exact n_add (y := Int32.ofInt (1)) (by show _ ≤ _ + (1 : Int); omega) (by show _ + (1 : Int) ≤ _; omega)
                rw [← x41e]
                refine aw_step (f1 := (48, [some (.ref 65), some (.int bo), some (.int f), some (.int t), some (.int x39), some (.int c), some (.int x41), some (.int x32)], [])) (w1 := w29) rfl rfl ?_
                have hi : x26.toInt = rI w 78 c.toInt.toNat + (1 + (if V (40 + dd.toInt.toNat) = 94 then 1 else 0)) := by omega
                exact ih w29 x39 x41 _ (by omega) (by omega) (by omega) J30 (O.trans w29o) (B.ck w29q (by omega) (by omega) ee hi) (P.ck w29q (by omega) hi (by omega) (fun s t e q he => by
                  by_cases u : s = c.toInt.toNat ∧ t = dd.toInt.toNat
                  · have z := (EW_i (by omega)).mp he
                    exact Or.inr ⟨u.1, u.2, by rw [z.2.2, u.2]⟩
                  · left; unfold CW at q ⊢; omega))
              · --
                refine s_i (pc1 := 129) (ls1 := [some (.ref 65), some (.int bo), some (.int f), some (.int t), some (.int more), some (.int c), some (.int dd), some (.int x32)]) (st1 := []) rfl rfl fun x42 e43 => ?_
                have e43t : x42.toInt = 1 := by rw [e43]; rfl
                refine aw_step (f1 := (133, [some (.ref 65), some (.int bo), some (.int f), some (.int t), some (.int more), some (.int c), some (.int dd), some (.int x32)], [(.int x42)])) (w1 := w29) rfl rfl ?_
                refine aw_step (f1 := (135, [some (.ref 65), some (.int bo), some (.int f), some (.int t), some (.int x42), some (.int c), some (.int dd), some (.int x32)], [])) (w1 := w29) rfl rfl ?_
                refine aw_step (f1 := (138, [some (.ref 65), some (.int bo), some (.int f), some (.int t), some (.int x42), some (.int c), some (.int (dd + Int32.ofInt 1)), some (.int x32)], [])) (w1 := w29) rfl rfl ?_
                obtain ⟨x44, x44e⟩ : ∃ z, z = (dd + Int32.ofInt 1) := ⟨_, rfl⟩
                have x44t : x44.toInt = dd.toInt + (1) := by rw [x44e]; exact n_add (y := Int32.ofInt (1)) (by show _ ≤ _ + (1 : Int); omega) (by show _ + (1 : Int) ≤ _; omega)
                rw [← x44e]
                refine aw_step (f1 := (48, [some (.ref 65), some (.int bo), some (.int f), some (.int t), some (.int x42), some (.int c), some (.int x44), some (.int x32)], [])) (w1 := w29) rfl rfl ?_
                have hi : x26.toInt = rI w 78 c.toInt.toNat + (1 + (if V (40 + dd.toInt.toNat) = 94 then 1 else 0)) := by omega
                exact ih w29 x42 x44 _ (by omega) (by omega) (by omega) J30 (O.trans w29o) (B.ck w29q (by omega) (by omega) ee hi) (P.ck w29q (by omega) hi (by omega) (fun s t e q he => by
                  by_cases u : s = c.toInt.toNat ∧ t = dd.toInt.toNat
                  · have z := (EW_i (by omega)).mp he
                    exact Or.inr ⟨u.1, u.2, by rw [z.2.2, u.2]⟩
                  · left; unfold CW at q ⊢; omega))
          · --
            refine s_i (pc1 := 112) (ls1 := [some (.ref 65), some (.int bo), some (.int f), some (.int t), some (.int more), some (.int c), some (.int dd), o7]) (st1 := []) rfl rfl fun x45 e46 => ?_
            have e46t : x45.toInt = 1 := by rw [e46]; rfl
            refine aw_step (f1 := (116, [some (.ref 65), some (.int bo), some (.int f), some (.int t), some (.int more), some (.int c), some (.int dd), o7], [(.int x45)])) (w1 := w29) rfl rfl ?_
            refine aw_step (f1 := (118, [some (.ref 65), some (.int bo), some (.int f), some (.int t), some (.int more), some (.int c), some (.int dd), some (.int x45)], [])) (w1 := w29) rfl rfl ?_
            refine aw_step (f1 := (120, [some (.ref 65), some (.int bo), some (.int f), some (.int t), some (.int more), some (.int c), some (.int dd), some (.int x45)], [(.int more)])) (w1 := w29) rfl rfl ?_
            refine s_if 128 123 rfl rfl rfl (fun (h47 : ¬ more.toInt = 0) => ?_) (fun (h47 : ¬ (¬ more.toInt = 0)) => ?_)
            · --
              refine s_i (pc1 := 129) (ls1 := [some (.ref 65), some (.int bo), some (.int f), some (.int t), some (.int more), some (.int c), some (.int dd), some (.int x45)]) (st1 := []) rfl rfl fun x48 e49 => ?_
              have e49t : x48.toInt = 1 := by rw [e49]; rfl
              refine aw_step (f1 := (133, [some (.ref 65), some (.int bo), some (.int f), some (.int t), some (.int more), some (.int c), some (.int dd), some (.int x45)], [(.int x48)])) (w1 := w29) rfl rfl ?_
              refine aw_step (f1 := (135, [some (.ref 65), some (.int bo), some (.int f), some (.int t), some (.int x48), some (.int c), some (.int dd), some (.int x45)], [])) (w1 := w29) rfl rfl ?_
              refine aw_step (f1 := (138, [some (.ref 65), some (.int bo), some (.int f), some (.int t), some (.int x48), some (.int c), some (.int (dd + Int32.ofInt 1)), some (.int x45)], [])) (w1 := w29) rfl rfl ?_
              obtain ⟨x50, x50e⟩ : ∃ z, z = (dd + Int32.ofInt 1) := ⟨_, rfl⟩
              have x50t : x50.toInt = dd.toInt + (1) := by rw [x50e]; exact n_add (y := Int32.ofInt (1)) (by show _ ≤ _ + (1 : Int); omega) (by show _ + (1 : Int) ≤ _; omega)
              rw [← x50e]
              refine aw_step (f1 := (48, [some (.ref 65), some (.int bo), some (.int f), some (.int t), some (.int x48), some (.int c), some (.int x50), some (.int x45)], [])) (w1 := w29) rfl rfl ?_
              have hi : x26.toInt = rI w 78 c.toInt.toNat + (1 + (if V (40 + dd.toInt.toNat) = 94 then 1 else 0)) := by omega
              exact ih w29 x48 x50 _ (by omega) (by omega) (by omega) J30 (O.trans w29o) (B.ck w29q (by omega) (by omega) ee hi) (P.ck w29q (by omega) hi (by omega) (fun s t e q he => by
                by_cases u : s = c.toInt.toNat ∧ t = dd.toInt.toNat
                · have z := (EW_i (by omega)).mp he
                  exact Or.inr ⟨u.1, u.2, by rw [z.2.2, u.2]⟩
                · left; unfold CW at q ⊢; omega))
            · --
              refine aw_step (f1 := (125, [some (.ref 65), some (.int bo), some (.int f), some (.int t), some (.int more), some (.int c), some (.int dd), some (.int x45)], [(.int x45)])) (w1 := w29) rfl rfl ?_
              refine s_if 132 128 rfl rfl rfl (fun (h51 : x45.toInt = 0) => ?_) (fun (h51 : ¬ (x45.toInt = 0)) => ?_)
              · --
                refine s_i (pc1 := 133) (ls1 := [some (.ref 65), some (.int bo), some (.int f), some (.int t), some (.int more), some (.int c), some (.int dd), some (.int x45)]) (st1 := []) rfl rfl fun x52 e53 => ?_
                have e53t : x52.toInt = 0 := by rw [e53]; rfl
                refine aw_step (f1 := (135, [some (.ref 65), some (.int bo), some (.int f), some (.int t), some (.int x52), some (.int c), some (.int dd), some (.int x45)], [])) (w1 := w29) rfl rfl ?_
                refine aw_step (f1 := (138, [some (.ref 65), some (.int bo), some (.int f), some (.int t), some (.int x52), some (.int c), some (.int (dd + Int32.ofInt 1)), some (.int x45)], [])) (w1 := w29) rfl rfl ?_
                obtain ⟨x54, x54e⟩ : ∃ z, z = (dd + Int32.ofInt 1) := ⟨_, rfl⟩
                have x54t : x54.toInt = dd.toInt + (1) := by rw [x54e]; exact n_add (y := Int32.ofInt (1)) (by show _ ≤ _ + (1 : Int); omega) (by show _ + (1 : Int) ≤ _; omega)
                rw [← x54e]
                refine aw_step (f1 := (48, [some (.ref 65), some (.int bo), some (.int f), some (.int t), some (.int x52), some (.int c), some (.int x54), some (.int x45)], [])) (w1 := w29) rfl rfl ?_
                have hi : x26.toInt = rI w 78 c.toInt.toNat + (1 + (if V (40 + dd.toInt.toNat) = 94 then 1 else 0)) := by omega
                exact ih w29 x52 x54 _ (by omega) (by omega) (by omega) J30 (O.trans w29o) (B.ck w29q (by omega) (by omega) ee hi) (P.ck w29q (by omega) hi (by omega) (fun s t e q he => by
                  by_cases u : s = c.toInt.toNat ∧ t = dd.toInt.toNat
                  · have z := (EW_i (by omega)).mp he
                    exact Or.inr ⟨u.1, u.2, by rw [z.2.2, u.2]⟩
                  · left; unfold CW at q ⊢; omega))
              · --
                refine s_i (pc1 := 129) (ls1 := [some (.ref 65), some (.int bo), some (.int f), some (.int t), some (.int more), some (.int c), some (.int dd), some (.int x45)]) (st1 := []) rfl rfl fun x55 e56 => ?_
                have e56t : x55.toInt = 1 := by rw [e56]; rfl
                refine aw_step (f1 := (133, [some (.ref 65), some (.int bo), some (.int f), some (.int t), some (.int more), some (.int c), some (.int dd), some (.int x45)], [(.int x55)])) (w1 := w29) rfl rfl ?_
                refine aw_step (f1 := (135, [some (.ref 65), some (.int bo), some (.int f), some (.int t), some (.int x55), some (.int c), some (.int dd), some (.int x45)], [])) (w1 := w29) rfl rfl ?_
                refine aw_step (f1 := (138, [some (.ref 65), some (.int bo), some (.int f), some (.int t), some (.int x55), some (.int c), some (.int (dd + Int32.ofInt 1)), some (.int x45)], [])) (w1 := w29) rfl rfl ?_
                obtain ⟨x57, x57e⟩ : ∃ z, z = (dd + Int32.ofInt 1) := ⟨_, rfl⟩
                have x57t : x57.toInt = dd.toInt + (1) := by rw [x57e]; exact n_add (y := Int32.ofInt (1)) (by show _ ≤ _ + (1 : Int); omega) (by show _ + (1 : Int) ≤ _; omega)
                rw [← x57e]
                refine aw_step (f1 := (48, [some (.ref 65), some (.int bo), some (.int f), some (.int t), some (.int x55), some (.int c), some (.int x57), some (.int x45)], [])) (w1 := w29) rfl rfl ?_
                have hi : x26.toInt = rI w 78 c.toInt.toNat + (1 + (if V (40 + dd.toInt.toNat) = 94 then 1 else 0)) := by omega
                exact ih w29 x55 x57 _ (by omega) (by omega) (by omega) J30 (O.trans w29o) (B.ck w29q (by omega) (by omega) ee hi) (P.ck w29q (by omega) hi (by omega) (fun s t e q he => by
                  by_cases u : s = c.toInt.toNat ∧ t = dd.toInt.toNat
                  · have z := (EW_i (by omega)).mp he
                    exact Or.inr ⟨u.1, u.2, by rw [z.2.2, u.2]⟩
                  · left; unfold CW at q ⊢; omega))
theorem f_wornJ {d : Nat} {Q : Option Value → am_W → Prop} {w00 wb : am_W} {V : Nat → Int} {L : Int} (R00 : RMs wb V) (lr00 : lrV V L (rL wb 74)) (bo f t : Int32) (K : ∀ (w : am_W) (more c : Int32) (o6 o7 : Option Value), ab_J ab_TT ab_sets ab_WR w00 w → only [78] wb w → bfI (ET V 1 1 0 0 L 0) f.toInt.toNat (rI w 78) → psI (ET V 1 1 0 0 L 0) (rI wb 78) more.toInt (rI w 78) (CW (szV V).toNat 0) → aw none (d + 3) 148 Q (147, [some (.ref 65), some (.int bo), some (.int f), some (.int t), some (.int more), some (.int c), o6, o7], []) w) : ∀ (m : Nat) (w : am_W) (more c : Int32) (o6 o7 : Option Value), (szV V - c.toInt).toNat < m → 0 ≤ c.toInt → c.toInt ≤ szV V → ab_J ab_TT ab_sets ab_WR w00 w → only [78] wb w → bfI (ET V 1 1 0 0 L 0) f.toInt.toNat (rI w 78) → psI (ET V 1 1 0 0 L 0) (rI wb 78) more.toInt (rI w 78) (CW c.toInt.toNat 0) → aw none (d + 3) 148 Q (36, [some (.ref 65), some (.int bo), some (.int f), some (.int t), some (.int more), some (.int c), o6, o7], []) w := by
  intro m
  induction m with
  | zero => intro w more c o6 o7 p; omega
  | succ m ih =>
    intro w more c o6 o7 p1 p2 p3 J O B P
    have R := R00.o78 O
    have szm := szM_in J.1
    have hsz := R.sz
    refine aw_step (f1 := (38, [some (.ref 65), some (.int bo), some (.int f), some (.int t), some (.int more), some (.int c), o6, o7], [(.int c)])) (w1 := w) rfl rfl ?_
    refine aw_step (f1 := (39, [some (.ref 65), some (.int bo), some (.int f), some (.int t), some (.int more), some (.int c), o6, o7], [(.ref 65), (.int c)])) (w1 := w) rfl rfl ?_
    refine s_cv (z := 113) (p := 65) (as := []) (st1 := [(.int c)]) J 42 rfl rfl rfl rfl rfl rfl rfl rfl (Nat.le_of_ble_eq_true rfl) (Nat.le_of_ble_eq_true rfl) (q_cells J.1) ?_
    rintro _ _ ⟨rfl, x1, rfl, x1t⟩
    refine ⟨rfl, ?_⟩
    show aw none _ 148 _ (42, [some (.ref 65), some (.int bo), some (.int f), some (.int t), some (.int more), some (.int c), o6, o7], [(.int x1), (.int c)]) w
    have x1s := szM_in J.1
    refine s_ic 147 45 rfl rfl rfl (fun (h2 : x1.toInt ≤ c.toInt) => ?_) (fun (h2 : ¬ (x1.toInt ≤ c.toInt)) => ?_)
    · --
      exact K w more c _ _ J O B (by rw [show (szV V).toNat = c.toInt.toNat by omega]; exact P)
    · --
      refine s_i (pc1 := 46) (ls1 := [some (.ref 65), some (.int bo), some (.int f), some (.int t), some (.int more), some (.int c), o6, o7]) (st1 := []) rfl rfl fun x3 e4 => ?_
      have e4t : x3.toInt = 0 := by rw [e4]; rfl
      refine aw_step (f1 := (48, [some (.ref 65), some (.int bo), some (.int f), some (.int t), some (.int more), some (.int c), some (.int x3), o7], [])) (w1 := w) rfl rfl ?_
      refine f_wornI R00 lr00 bo f t c ⟨by omega, by omega⟩ (fun w9 m9 d9 q7 J9 O9 B9 P9 => ?_) 37 w more x3 _ (by omega) (by omega) (by omega) J O B (by rw [show x3.toInt.toNat = 0 by omega]; exact P)
      refine aw_step (f1 := (144, [some (.ref 65), some (.int bo), some (.int f), some (.int t), some (.int m9), some (.int (c + Int32.ofInt 1)), some (.int d9), q7], [])) (w1 := w9) rfl rfl ?_
      obtain ⟨zx1, zx1e⟩ : ∃ z, z = (c + Int32.ofInt 1) := ⟨_, rfl⟩
      have zx1t : zx1.toInt = c.toInt + (1) := by rw [zx1e]; exact n_add (y := Int32.ofInt (1)) (by show _ ≤ _ + (1 : Int); omega) (by show _ + (1 : Int) ≤ _; omega)
      rw [← zx1e]
      refine aw_step (f1 := (36, [some (.ref 65), some (.int bo), some (.int f), some (.int t), some (.int m9), some (.int zx1), some (.int d9), q7], [])) (w1 := w9) rfl rfl ?_
      exact ih w9 m9 zx1 _  _ (by omega) (by omega) (by omega) J9 O9 B9 (by rw [show zx1.toInt.toNat = c.toInt.toNat + 1 by omega]; exact P9)
theorem f_wornO {d : Nat} {w00 w0 : am_W} {V : Nat → Int} {L : Int} (R00 : RMs w0 V) (lr00 : lrV V L (rL w0 74)) (bo f t : Int32) (hf : ((f.toInt.toNat : Nat) : Int) < szV V ∧ V (40 + f.toInt.toNat) ≠ 126) (ht : 0 ≤ t.toInt ∧ t.toInt < szV V) (hE : ∀ s t e, (ET V 1 1 0 0 L 0) s t e → t < 72 ∧ 0 ≤ e ∧ e ≤ 1000) : ∀ (m : Nat) (w : am_W) (more : Int32) (o5 o6 o7 : Option Value), (sC w).toNat + more.toInt.toNat < m → ab_J ab_TT ab_sets ab_WR w00 w → only [78] w0 w → bfI (ET V 1 1 0 0 L 0) f.toInt.toNat (rI w 78) → (more.toInt = 1 ∨ (more.toInt = 0 ∧ ∀ s t e, s < 72 → rI w 78 s < 100000 → (ET V 1 1 0 0 L 0) s t e → rI w 78 t ≤ rI w 78 s + e)) → aw none (d + 3) 148 (fun r w1 => ab_J ab_TT ab_sets ab_WR w00 w1 ∧ ∃ z : Int32, r = some (.int z) ∧ trR (ET V 1 1 0 0 L 0) f.toInt.toNat t.toInt.toNat z.toInt) (25, [some (.ref 65), some (.int bo), some (.int f), some (.int t), some (.int more), o5, o6, o7], []) w := by
  intro m
  induction m with
  | zero => intro w more o5 o6 o7 p; omega
  | succ m ih =>
    intro w more o5 o6 o7 p1 J O B F
    have R := R00.o78 O
    have szm := szM_in J.1
    have hsz := R.sz
    have lr : lrV V L (rL w 74) := fun a b h => by rw [O.rLe (by decide)]; exact lr00 a b h
    have mb : more.toInt = 1 ∨ more.toInt = 0 := by
      rcases F with q | q
      · exact Or.inl q
      · exact Or.inr q.1
    refine aw_step (f1 := (27, [some (.ref 65), some (.int bo), some (.int f), some (.int t), some (.int more), o5, o6, o7], [(.int more)])) (w1 := w) rfl rfl ?_
    refine s_if 150 30 rfl rfl rfl (fun (h1 : more.toInt = 0) => ?_) (fun (h1 : ¬ (more.toInt = 0)) => ?_)
    · --
      refine aw_step (f1 := (151, [some (.ref 65), some (.int bo), some (.int f), some (.int t), some (.int more), o5, o6, o7], [(.ref 65)])) (w1 := w) rfl rfl ?_
      refine s_gr 78 J 154 rfl rfl rfl rfl rfl rfl ?_
      refine aw_step (f1 := (155, [some (.ref 65), some (.int bo), some (.int f), some (.int t), some (.int more), o5, o6, o7], [(.int t), (.ref 78)])) (w1 := w) rfl rfl ?_
      refine s_ia J 156 rfl rfl rfl rfl (by omega) (by omega) fun x2 x2a x2b x2f => ?_
      have x2v : x2.toInt = rI w 78 t.toInt.toNat := by rw [← rI_of x2f]
      refine s_i (pc1 := 158) (ls1 := [some (.ref 65), some (.int bo), some (.int f), some (.int t), some (.int more), o5, o6, o7]) (st1 := [(.int x2)]) rfl rfl fun x3 e4 => ?_
      have e4t : x3.toInt = 100000 := by rw [e4]; rfl
      refine s_ic 166 161 rfl rfl rfl (fun (h5 : ¬ x2.toInt = x3.toInt) => ?_) (fun (h5 : ¬ (¬ x2.toInt = x3.toInt)) => ?_)
      · --
        refine aw_step (f1 := (167, [some (.ref 65), some (.int bo), some (.int f), some (.int t), some (.int more), o5, o6, o7], [(.ref 65)])) (w1 := w) rfl rfl ?_
        refine s_gr 78 J 170 rfl rfl rfl rfl rfl rfl ?_
        refine aw_step (f1 := (171, [some (.ref 65), some (.int bo), some (.int f), some (.int t), some (.int more), o5, o6, o7], [(.int t), (.ref 78)])) (w1 := w) rfl rfl ?_
        refine s_ia J 172 rfl rfl rfl rfl (by omega) (by omega) fun x6 x6a x6b x6f => ?_
        have x6v : x6.toInt = rI w 78 t.toInt.toNat := by rw [← rI_of x6f]
        refine aw_ret (v := some (.int x6)) rfl rfl ?_
        have FX := F.resolve_left (fun q => by omega)
        have fin : ∀ u, u < 72 → (rI w 78 u = 100000 ∧ nvT (ET V 1 1 0 0 L 0) f.toInt.toNat u) ∨ (rI w 78 u < 100000 ∧ mnT (ET V 1 1 0 0 L 0) f.toInt.toNat u (rI w 78 u)) := fun u hu => fxT (by decide) (by omega) hE B.1 B.2 FX.2 hu
        have fa := fin t.toInt.toNat (by omega)
        have fb := fin (36 + t.toInt.toNat) (by omega)
        have f36 : rI w 78 (36 + t.toInt.toNat) = 100000 := by
          rcases B.2 (36 + t.toInt.toNat) (by omega) with u | ⟨u, nw, u2⟩
          · exact u
          · have := wk_36 (by omega) (by omega) u2; omega
        have ta := rI_78 J.1 (j := t.toInt.toNat) (by omega)
        exact ⟨J, x6, rfl, trR.of fa fb (by clear fa fb fin F FX; omega)⟩
      · --
        refine s_i (pc1 := 163) (ls1 := [some (.ref 65), some (.int bo), some (.int f), some (.int t), some (.int more), o5, o6, o7]) (st1 := []) rfl rfl fun x7 e8 => ?_
        have e8t : x7.toInt = -6 := by rw [e8]; rfl
        refine aw_step (f1 := (172, [some (.ref 65), some (.int bo), some (.int f), some (.int t), some (.int more), o5, o6, o7], [(.int x7)])) (w1 := w) rfl rfl ?_
        refine aw_ret (v := some (.int x7)) rfl rfl ?_
        have FX := F.resolve_left (fun q => by omega)
        have fin : ∀ u, u < 72 → (rI w 78 u = 100000 ∧ nvT (ET V 1 1 0 0 L 0) f.toInt.toNat u) ∨ (rI w 78 u < 100000 ∧ mnT (ET V 1 1 0 0 L 0) f.toInt.toNat u (rI w 78 u)) := fun u hu => fxT (by decide) (by omega) hE B.1 B.2 FX.2 hu
        have fa := fin t.toInt.toNat (by omega)
        have fb := fin (36 + t.toInt.toNat) (by omega)
        have f36 : rI w 78 (36 + t.toInt.toNat) = 100000 := by
          rcases B.2 (36 + t.toInt.toNat) (by omega) with u | ⟨u, nw, u2⟩
          · exact u
          · have := wk_36 (by omega) (by omega) u2; omega
        have ta := rI_78 J.1 (j := t.toInt.toNat) (by omega)
        exact ⟨J, x7, rfl, trR.of fa fb (by clear fa fb fin F FX; omega)⟩
    · --
      refine s_i (pc1 := 31) (ls1 := [some (.ref 65), some (.int bo), some (.int f), some (.int t), some (.int more), o5, o6, o7]) (st1 := []) rfl rfl fun x9 e10 => ?_
      have e10t : x9.toInt = 0 := by rw [e10]; rfl
      refine aw_step (f1 := (33, [some (.ref 65), some (.int bo), some (.int f), some (.int t), some (.int x9), o5, o6, o7], [])) (w1 := w) rfl rfl ?_
      refine s_i (pc1 := 34) (ls1 := [some (.ref 65), some (.int bo), some (.int f), some (.int t), some (.int x9), o5, o6, o7]) (st1 := []) rfl rfl fun x11 e12 => ?_
      have e12t : x11.toInt = 0 := by rw [e12]; rfl
      refine aw_step (f1 := (36, [some (.ref 65), some (.int bo), some (.int f), some (.int t), some (.int x9), some (.int x11), o6, o7], [])) (w1 := w) rfl rfl ?_
      refine f_wornJ R lr bo f t (fun w9 m9 c9 q6 q7 J9 O9 B9 P9 => ?_) 37 w x9 x11 _ _ (by omega) (by omega) (by omega) J only.rf B (by rw [show x11.toInt.toNat = 0 by omega]; exact Or.inr ⟨by omega, fun j => rfl, fun s t e q => by unfold CW at q; omega⟩)
      refine aw_step (f1 := (25, [some (.ref 65), some (.int bo), some (.int f), some (.int t), some (.int m9), some (.int c9), q6, q7], [])) (w1 := w9) rfl rfl ?_
      refine ih w9 m9 _ _ _  (by have s9 := P9.sc; have := sC_0 J9.1; have := sC_0 J.1; unfold sC at *; omega) J9 ((O.trans O9)) B9 ?_
      rcases P9 with q | ⟨q1, q2, q3⟩
      · exact Or.inl q.1
      · refine Or.inr ⟨q1, fun s t e hs hb he => ?_⟩
        rw [q2 s] at hb ⊢
        rw [q2 t]
        refine q3 s t e (Or.inl ?_) hb he
        obtain ⟨sd, c1, g1, g2, g3, g4⟩ := he
        have s36 : s < 36 := by
          rcases B9.2 s hs with u | ⟨u, nw, u2⟩
          · rw [q2 s] at u; omega
          · exact wk_36 (by omega) (by omega) u2
        omega
theorem f_worn {d : Nat} {w : am_W} {V : Nat → Int} (R : RMs w V) (bo f t : Int32) (I : ab_inv ab_TT ab_sets w) : aw none (d + 6) 148 (fun r w1 => ab_J ab_TT ab_sets ab_WR w w1 ∧ ∃ z : Int32, r = some (.int z) ∧ wonP V bo.toInt f.toInt t.toInt z.toInt) (0, am_entry 148 [.ref 65, .int bo, .int f, .int t], []) w := by
  have J : ab_J ab_TT ab_sets ab_WR w w := ⟨I, ab_fr.rf⟩
  have szm := szM_in I
  have hsz := R.sz
  have hl0 : ∀ c : Int32, 0 ≤ c.toInt → c.toInt < szV V → rI w 66 c.toInt.toNat = V (40 + c.toInt.toNat) := fun c a b => R.rc (by omega)
  show aw none (d + 6) 148 _ (0, [some (.ref 65), some (.int bo), some (.int f), some (.int t), none, none, none, none], []) w
  refine aw_step (f1 := (1, [some (.ref 65), some (.int bo), some (.int f), some (.int t), none, none, none, none], [(.ref 65)])) (w1 := w) rfl rfl ?_
  refine aw_step (f1 := (2, [some (.ref 65), some (.int bo), some (.int f), some (.int t), none, none, none, none], [(.int bo), (.ref 65)])) (w1 := w) rfl rfl ?_
  refine aw_step (f1 := (3, [some (.ref 65), some (.int bo), some (.int f), some (.int t), none, none, none, none], [(.int f), (.int bo), (.ref 65)])) (w1 := w) rfl rfl ?_
  refine aw_step (f1 := (4, [some (.ref 65), some (.int bo), some (.int f), some (.int t), none, none, none, none], [(.int t), (.int f), (.int bo), (.ref 65)])) (w1 := w) rfl rfl ?_
  refine s_cv (z := 143) (p := 65) (as := [(.int bo), (.int f), (.int t)]) (st1 := []) J 7 rfl rfl rfl rfl rfl rfl rfl rfl (Nat.le_of_ble_eq_true rfl) (Nat.le_of_ble_eq_true rfl) (q_isAsked bo f t J.1) ?_
  rintro _ _ ⟨rfl, x1, rfl, x1t⟩
  refine ⟨rfl, ?_⟩
  show aw none _ 148 _ (7, [some (.ref 65), some (.int bo), some (.int f), some (.int t), none, none, none, none], [(.int x1)]) w
  have x1s := szM_in J.1
  refine s_if 12 10 rfl rfl rfl (fun (h2 : ¬ x1.toInt = 0) => ?_) (fun (h2 : ¬ (¬ x1.toInt = 0)) => ?_)
  · --
    refine aw_step (f1 := (13, [some (.ref 65), some (.int bo), some (.int f), some (.int t), none, none, none, none], [(.ref 65)])) (w1 := w) rfl rfl ?_
    refine aw_step (f1 := (14, [some (.ref 65), some (.int bo), some (.int f), some (.int t), none, none, none, none], [(.int bo), (.ref 65)])) (w1 := w) rfl rfl ?_
    refine s_cv (z := 133) (p := 65) (as := [(.int bo)]) (st1 := []) J 17 rfl rfl rfl rfl rfl rfl rfl rfl (Nat.le_of_ble_eq_true rfl) (Nat.le_of_ble_eq_true rfl) (q_putOn bo ⟨by omega, by omega⟩ J.1) ?_
    rintro _ w3 ⟨rfl, J4c, w3o, w3p⟩
    have J4 := J.trans J4c
    refine ⟨am_len2 J J4c, ?_⟩
    show aw none _ 148 _ (17, [some (.ref 65), some (.int bo), some (.int f), some (.int t), none, none, none, none], []) w3
    refine aw_step (f1 := (18, [some (.ref 65), some (.int bo), some (.int f), some (.int t), none, none, none, none], [(.ref 65)])) (w1 := w3) rfl rfl ?_
    refine aw_step (f1 := (19, [some (.ref 65), some (.int bo), some (.int f), some (.int t), none, none, none, none], [(.int f), (.ref 65)])) (w1 := w3) rfl rfl ?_
    refine s_cv (z := 146) (p := 65) (as := [(.int f)]) (st1 := []) J4 22 rfl rfl rfl rfl rfl rfl rfl rfl (Nat.le_of_ble_eq_true rfl) (Nat.le_of_ble_eq_true rfl) (q_beginCosts f ⟨by omega, by omega⟩ J4.1) ?_
    rintro _ w5 ⟨rfl, J6c, w5o, w5p0, w5p⟩
    have J6 := J4.trans J6c
    refine ⟨am_len2 J4 J6c, ?_⟩
    show aw none _ 148 _ (22, [some (.ref 65), some (.int bo), some (.int f), some (.int t), none, none, none, none], []) w5
    refine s_i (pc1 := 23) (ls1 := [some (.ref 65), some (.int bo), some (.int f), some (.int t), none, none, none, none]) (st1 := []) rfl rfl fun x7 e8 => ?_
    have e8t : x7.toInt = 1 := by rw [e8]; rfl
    refine aw_step (f1 := (25, [some (.ref 65), some (.int bo), some (.int f), some (.int t), some (.int x7), none, none, none], [])) (w1 := w5) rfl rfl ?_
    have hlf := hl0 f (by omega) (by omega)
    have hlt := hl0 t (by omega) (by omega)
    have l67 : rI w 67 bo.toInt.toNat = V (8 + 4 * bo.toInt.toNat + 0) := R.ra (i := bo.toInt.toNat) (c := 0) (by omega) (by decide)
    have lr := rowM_V R (by omega) w3p
    rw [l67] at lr
    have lr2 : lrV V (V (8 + 4 * bo.toInt.toNat + 0)) (rL w5 74) := fun a b h => by rw [w5o.rLe (by decide)]; exact lr a b h
    have R2 := R.wr I J6
    refine (f_wornO R2 lr2 bo f t ⟨by omega, by omega⟩ ⟨by omega, by omega⟩ (ET_b (by omega) (by unfold okT; omega)) ((sC w5).toNat + 2) w5 x7 _ _ _ (by omega) J6 only.rf ⟨by omega, fun u hu => ?_⟩ (Or.inl (by omega))).mono ?_
    · by_cases e : u = f.toInt.toNat
      · subst e
        exact Or.inr ⟨by omega, 0, rfl, w5p0⟩
      · exact Or.inl (w5p u hu e)
    · rintro r w1 ⟨J9, z, rfl, hz⟩
      exact ⟨J9, z, rfl, Or.inr ⟨⟨⟨by omega, by omega⟩, ⟨by omega, by omega, by omega⟩, by omega, by omega, by omega⟩, hz⟩⟩
  · --
    refine s_i (pc1 := 11) (ls1 := [some (.ref 65), some (.int bo), some (.int f), some (.int t), none, none, none, none]) (st1 := []) rfl rfl fun x9 e10 => ?_
    have e10t : x9.toInt = -1 := by rw [e10]; rfl
    refine aw_ret (v := some (.int x9)) rfl rfl ?_
    exact ⟨J, x9, rfl, Or.inl ⟨by omega, by have := hl0 f; have := hl0 t; omega⟩⟩
theorem tm_45 {w : am_W} {V : Nat → Int} (R : RMs w V) (I : ab_inv ab_TT ab_sets w) : (1 ≤ V 4 ∧ V 4 ≤ 9) ∧ 1 ≤ V 5 ∧ V 5 ≤ 9 := by
  rw [← R.f4, ← R.f5]
  exact ⟨fI_in I (p := 65) rfl rfl, fI_in I (p := 65) rfl rfl⟩
theorem f_timeC {d : Nat} {Q : Option Value → am_W → Prop} {w00 wb : am_W} {V : Nat → Int} {L : Int} (R00 : RMs wb V) (lr00 : lrV V L (rL wb 74)) (bo f t more c dd be a : Int32) (o9 : Option Value) (hc : 0 ≤ c.toInt ∧ c.toInt < szV V) (hbe : (be.toInt = 1 ∧ eV V 1 c.toInt.toNat dd.toInt.toNat) ∨ (be.toInt = 0 ∧ ¬ eV V 1 c.toInt.toNat dd.toInt.toNat)) (hcl : V (40 + c.toInt.toNat) ≠ 126) (hd : 0 ≤ dd.toInt ∧ dd.toInt < szV V) (K : ∀ (w : am_W) (m2 d2 : Int32) (o7 o8 o9 : Option Value), d2.toInt = dd.toInt + 1 → ab_J ab_TT ab_sets ab_WR w00 w → only [78] wb w → bfI (ET V (V 4) 0 (V 5) 0 L 0) f.toInt.toNat (rI w 78) → psI (ET V (V 4) 0 (V 5) 0 L 0) (rI wb 78) m2.toInt (rI w 78) (CW c.toInt.toNat d2.toInt.toNat) → aw none (d + 3) 151 Q (48, [some (.ref 65), some (.int bo), some (.int f), some (.int t), some (.int m2), some (.int c), some (.int d2), o7, o8, o9], []) w) (w : am_W) (m1 : Int) (hm : (m1 = 1 ∧ (more.toInt = 1 ∨ a.toInt = 1)) ∨ (m1 = 0 ∧ more.toInt = 0 ∧ a.toInt = 0)) (hmb : (more.toInt = 1 ∨ more.toInt = 0) ∧ (a.toInt = 1 ∨ a.toInt = 0)) (J : ab_J ab_TT ab_sets ab_WR w00 w) (O : only [78] wb w) (B : bfI (ET V (V 4) 0 (V 5) 0 L 0) f.toInt.toNat (rI w 78)) (hr : rI w 78 c.toInt.toNat < 100000) (P : psI (ET V (V 4) 0 (V 5) 0 L 0) (rI wb 78) m1 (rI w 78) (fun s t e => CW c.toInt.toNat dd.toInt.toNat s t e ∨ (s = c.toInt.toNat ∧ t = dd.toInt.toNat ∧ eV V L s t ∧ e = V 4))) : aw none (d + 3) 151 Q (140, [some (.ref 65), some (.int bo), some (.int f), some (.int t), some (.int more), some (.int c), some (.int dd), some (.int be), some (.int a), o9], []) w := by
  have R := R00.o78 O
  have szm := szM_in J.1
  have hsz := R.sz
  have v45 := tm_45 R J.1
  have r5 := R.f5
  refine aw_step (f1 := (142, [some (.ref 65), some (.int bo), some (.int f), some (.int t), some (.int more), some (.int c), some (.int dd), some (.int be), some (.int a), o9], [(.int be)])) (w1 := w) rfl rfl ?_
  refine s_if 170 145 rfl rfl rfl (fun (h1 : be.toInt = 0) => ?_) (fun (h1 : ¬ (be.toInt = 0)) => ?_)
  · --
    refine s_i (pc1 := 171) (ls1 := [some (.ref 65), some (.int bo), some (.int f), some (.int t), some (.int more), some (.int c), some (.int dd), some (.int be), some (.int a), o9]) (st1 := []) rfl rfl fun x2 e3 => ?_
    have e3t : x2.toInt = 0 := by rw [e3]; rfl
    refine aw_step (f1 := (173, [some (.ref 65), some (.int bo), some (.int f), some (.int t), some (.int more), some (.int c), some (.int dd), some (.int be), some (.int a), some (.int x2)], [])) (w1 := w) rfl rfl ?_
    refine aw_step (f1 := (175, [some (.ref 65), some (.int bo), some (.int f), some (.int t), some (.int more), some (.int c), some (.int dd), some (.int be), some (.int a), some (.int x2)], [(.int more)])) (w1 := w) rfl rfl ?_
    refine s_if 188 178 rfl rfl rfl (fun (h4 : ¬ more.toInt = 0) => ?_) (fun (h4 : ¬ (¬ more.toInt = 0)) => ?_)
    · --
      refine s_i (pc1 := 189) (ls1 := [some (.ref 65), some (.int bo), some (.int f), some (.int t), some (.int more), some (.int c), some (.int dd), some (.int be), some (.int a), some (.int x2)]) (st1 := []) rfl rfl fun x5 e6 => ?_
      have e6t : x5.toInt = 1 := by rw [e6]; rfl
      refine aw_step (f1 := (193, [some (.ref 65), some (.int bo), some (.int f), some (.int t), some (.int more), some (.int c), some (.int dd), some (.int be), some (.int a), some (.int x2)], [(.int x5)])) (w1 := w) rfl rfl ?_
      refine aw_step (f1 := (195, [some (.ref 65), some (.int bo), some (.int f), some (.int t), some (.int x5), some (.int c), some (.int dd), some (.int be), some (.int a), some (.int x2)], [])) (w1 := w) rfl rfl ?_
      refine aw_step (f1 := (198, [some (.ref 65), some (.int bo), some (.int f), some (.int t), some (.int x5), some (.int c), some (.int (dd + Int32.ofInt 1)), some (.int be), some (.int a), some (.int x2)], [])) (w1 := w) rfl rfl ?_
      obtain ⟨x7, x7e⟩ : ∃ z, z = (dd + Int32.ofInt 1) := ⟨_, rfl⟩
      have x7t : x7.toInt = dd.toInt + (1) := by rw [x7e]; exact n_add (y := Int32.ofInt (1)) (by show _ ≤ _ + (1 : Int); omega) (by show _ + (1 : Int) ≤ _; omega)
      rw [← x7e]
      refine aw_step (f1 := (48, [some (.ref 65), some (.int bo), some (.int f), some (.int t), some (.int x5), some (.int c), some (.int x7), some (.int be), some (.int a), some (.int x2)], [])) (w1 := w) rfl rfl ?_
      exact K w x5 x7 _ _ _ (by omega) J O B (P.no (by omega) (fun s t e q he => by
        by_cases u : s = c.toInt.toNat ∧ t = dd.toInt.toNat
        · have z := (EM_i (by omega) (by omega)).mp he
          rcases z.2 with y | y
          · exact Or.inr ⟨u.1, u.2, y.1, y.2⟩
          · rw [u.1, u.2] at y
            exact absurd y.1 (by rcases hbe with g | g
                                 · omega
                                 · exact g.2)
        · left; unfold CW at q ⊢; omega))
    · --
      refine aw_step (f1 := (180, [some (.ref 65), some (.int bo), some (.int f), some (.int t), some (.int more), some (.int c), some (.int dd), some (.int be), some (.int a), some (.int x2)], [(.int a)])) (w1 := w) rfl rfl ?_
      refine s_if 188 183 rfl rfl rfl (fun (h8 : ¬ a.toInt = 0) => ?_) (fun (h8 : ¬ (¬ a.toInt = 0)) => ?_)
      · --
        refine s_i (pc1 := 189) (ls1 := [some (.ref 65), some (.int bo), some (.int f), some (.int t), some (.int more), some (.int c), some (.int dd), some (.int be), some (.int a), some (.int x2)]) (st1 := []) rfl rfl fun x9 e10 => ?_
        have e10t : x9.toInt = 1 := by rw [e10]; rfl
        refine aw_step (f1 := (193, [some (.ref 65), some (.int bo), some (.int f), some (.int t), some (.int more), some (.int c), some (.int dd), some (.int be), some (.int a), some (.int x2)], [(.int x9)])) (w1 := w) rfl rfl ?_
        refine aw_step (f1 := (195, [some (.ref 65), some (.int bo), some (.int f), some (.int t), some (.int x9), some (.int c), some (.int dd), some (.int be), some (.int a), some (.int x2)], [])) (w1 := w) rfl rfl ?_
        refine aw_step (f1 := (198, [some (.ref 65), some (.int bo), some (.int f), some (.int t), some (.int x9), some (.int c), some (.int (dd + Int32.ofInt 1)), some (.int be), some (.int a), some (.int x2)], [])) (w1 := w) rfl rfl ?_
        obtain ⟨x11, x11e⟩ : ∃ z, z = (dd + Int32.ofInt 1) := ⟨_, rfl⟩
        have x11t : x11.toInt = dd.toInt + (1) := by rw [x11e]; exact n_add (y := Int32.ofInt (1)) (by show _ ≤ _ + (1 : Int); omega) (by show _ + (1 : Int) ≤ _; omega)
        rw [← x11e]
        refine aw_step (f1 := (48, [some (.ref 65), some (.int bo), some (.int f), some (.int t), some (.int x9), some (.int c), some (.int x11), some (.int be), some (.int a), some (.int x2)], [])) (w1 := w) rfl rfl ?_
        exact K w x9 x11 _ _ _ (by omega) J O B (P.no (by omega) (fun s t e q he => by
          by_cases u : s = c.toInt.toNat ∧ t = dd.toInt.toNat
          · have z := (EM_i (by omega) (by omega)).mp he
            rcases z.2 with y | y
            · exact Or.inr ⟨u.1, u.2, y.1, y.2⟩
            · rw [u.1, u.2] at y
              exact absurd y.1 (by rcases hbe with g | g
                                   · omega
                                   · exact g.2)
          · left; unfold CW at q ⊢; omega))
      · --
        refine aw_step (f1 := (185, [some (.ref 65), some (.int bo), some (.int f), some (.int t), some (.int more), some (.int c), some (.int dd), some (.int be), some (.int a), some (.int x2)], [(.int x2)])) (w1 := w) rfl rfl ?_
        refine s_if 192 188 rfl rfl rfl (fun (h12 : x2.toInt = 0) => ?_) (fun (h12 : ¬ (x2.toInt = 0)) => ?_)
        · --
          refine s_i (pc1 := 193) (ls1 := [some (.ref 65), some (.int bo), some (.int f), some (.int t), some (.int more), some (.int c), some (.int dd), some (.int be), some (.int a), some (.int x2)]) (st1 := []) rfl rfl fun x13 e14 => ?_
          have e14t : x13.toInt = 0 := by rw [e14]; rfl
          refine aw_step (f1 := (195, [some (.ref 65), some (.int bo), some (.int f), some (.int t), some (.int x13), some (.int c), some (.int dd), some (.int be), some (.int a), some (.int x2)], [])) (w1 := w) rfl rfl ?_
          refine aw_step (f1 := (198, [some (.ref 65), some (.int bo), some (.int f), some (.int t), some (.int x13), some (.int c), some (.int (dd + Int32.ofInt 1)), some (.int be), some (.int a), some (.int x2)], [])) (w1 := w) rfl rfl ?_
          obtain ⟨x15, x15e⟩ : ∃ z, z = (dd + Int32.ofInt 1) := ⟨_, rfl⟩
          have x15t : x15.toInt = dd.toInt + (1) := by rw [x15e]; exact n_add (y := Int32.ofInt (1)) (by show _ ≤ _ + (1 : Int); omega) (by show _ + (1 : Int) ≤ _; omega)
          rw [← x15e]
          refine aw_step (f1 := (48, [some (.ref 65), some (.int bo), some (.int f), some (.int t), some (.int x13), some (.int c), some (.int x15), some (.int be), some (.int a), some (.int x2)], [])) (w1 := w) rfl rfl ?_
          exact K w x13 x15 _ _ _ (by omega) J O B (P.no (by omega) (fun s t e q he => by
            by_cases u : s = c.toInt.toNat ∧ t = dd.toInt.toNat
            · have z := (EM_i (by omega) (by omega)).mp he
              rcases z.2 with y | y
              · exact Or.inr ⟨u.1, u.2, y.1, y.2⟩
              · rw [u.1, u.2] at y
                exact absurd y.1 (by rcases hbe with g | g
                                     · omega
                                     · exact g.2)
            · left; unfold CW at q ⊢; omega))
        · --
          refine s_i (pc1 := 189) (ls1 := [some (.ref 65), some (.int bo), some (.int f), some (.int t), some (.int more), some (.int c), some (.int dd), some (.int be), some (.int a), some (.int x2)]) (st1 := []) rfl rfl fun x16 e17 => ?_
          have e17t : x16.toInt = 1 := by rw [e17]; rfl
          refine aw_step (f1 := (193, [some (.ref 65), some (.int bo), some (.int f), some (.int t), some (.int more), some (.int c), some (.int dd), some (.int be), some (.int a), some (.int x2)], [(.int x16)])) (w1 := w) rfl rfl ?_
          refine aw_step (f1 := (195, [some (.ref 65), some (.int bo), some (.int f), some (.int t), some (.int x16), some (.int c), some (.int dd), some (.int be), some (.int a), some (.int x2)], [])) (w1 := w) rfl rfl ?_
          refine aw_step (f1 := (198, [some (.ref 65), some (.int bo), some (.int f), some (.int t), some (.int x16), some (.int c), some (.int (dd + Int32.ofInt 1)), some (.int be), some (.int a), some (.int x2)], [])) (w1 := w) rfl rfl ?_
          obtain ⟨x18, x18e⟩ : ∃ z, z = (dd + Int32.ofInt 1) := ⟨_, rfl⟩
          have x18t : x18.toInt = dd.toInt + (1) := by rw [x18e]; exact n_add (y := Int32.ofInt (1)) (by show _ ≤ _ + (1 : Int); omega) (by show _ + (1 : Int) ≤ _; omega)
          rw [← x18e]
          refine aw_step (f1 := (48, [some (.ref 65), some (.int bo), some (.int f), some (.int t), some (.int x16), some (.int c), some (.int x18), some (.int be), some (.int a), some (.int x2)], [])) (w1 := w) rfl rfl ?_
          exact K w x16 x18 _ _ _ (by omega) J O B (P.no (by omega) (fun s t e q he => by
            by_cases u : s = c.toInt.toNat ∧ t = dd.toInt.toNat
            · have z := (EM_i (by omega) (by omega)).mp he
              rcases z.2 with y | y
              · exact Or.inr ⟨u.1, u.2, y.1, y.2⟩
              · rw [u.1, u.2] at y
                exact absurd y.1 (by rcases hbe with g | g
                                     · omega
                                     · exact g.2)
            · left; unfold CW at q ⊢; omega))
  · --
    refine aw_step (f1 := (146, [some (.ref 65), some (.int bo), some (.int f), some (.int t), some (.int more), some (.int c), some (.int dd), some (.int be), some (.int a), o9], [(.ref 65)])) (w1 := w) rfl rfl ?_
    refine aw_step (f1 := (148, [some (.ref 65), some (.int bo), some (.int f), some (.int t), some (.int more), some (.int c), some (.int dd), some (.int be), some (.int a), o9], [(.int dd), (.ref 65)])) (w1 := w) rfl rfl ?_
    refine aw_step (f1 := (149, [some (.ref 65), some (.int bo), some (.int f), some (.int t), some (.int more), some (.int c), some (.int dd), some (.int be), some (.int a), o9], [(.ref 65), (.int dd), (.ref 65)])) (w1 := w) rfl rfl ?_
    refine s_gr 78 J 152 rfl rfl rfl rfl rfl rfl ?_
    refine aw_step (f1 := (154, [some (.ref 65), some (.int bo), some (.int f), some (.int t), some (.int more), some (.int c), some (.int dd), some (.int be), some (.int a), o9], [(.int c), (.ref 78), (.int dd), (.ref 65)])) (w1 := w) rfl rfl ?_
    refine s_ia J 155 rfl rfl rfl rfl (by omega) (by omega) fun x19 x19a x19b x19f => ?_
    have x19v : x19.toInt = rI w 78 c.toInt.toNat := by rw [← rI_of x19f]
    refine aw_step (f1 := (156, [some (.ref 65), some (.int bo), some (.int f), some (.int t), some (.int more), some (.int c), some (.int dd), some (.int be), some (.int a), o9], [(.ref 65), (.int x19), (.int dd), (.ref 65)])) (w1 := w) rfl rfl ?_
    refine s_gi J 159 rfl rfl rfl rfl rfl rfl fun x20 x20a x20b x20f => ?_
    have x20v : x20.toInt = fI w 65 8 := by rw [← fI_of x20f]
    refine s_i (pc1 := 160) (ls1 := [some (.ref 65), some (.int bo), some (.int f), some (.int t), some (.int more), some (.int c), some (.int dd), some (.int be), some (.int a), o9]) (st1 := [(.int dd), (.ref 65)]) rfl rfl fun x21 e22 => ?_
    have e22 : x21 = x19 + x20 := e22
    have e22t : x21.toInt = x19.toInt + x20.toInt := by rw [e22]; exact n_add (by omega) (by omega)
    refine s_cv (z := 147) (p := 65) (as := [(.int dd), (.int x21)]) (st1 := []) J 163 rfl rfl rfl rfl rfl rfl rfl rfl (Nat.le_of_ble_eq_true rfl) (Nat.le_of_ble_eq_true rfl) (q_cheapen dd x21 ⟨by omega, by omega⟩ (by omega) J.1) ?_
    rintro _ w24 ⟨x23, rfl, J25c, w24o, w24p⟩
    have J25 := J.trans J25c
    refine ⟨am_len2 J J25c, ?_⟩
    show aw none _ 151 _ (163, [some (.ref 65), some (.int bo), some (.int f), some (.int t), some (.int more), some (.int c), some (.int dd), some (.int be), some (.int a), o9], [(.int x23)]) w24
    have w24q : cpI (rI w 78) (rI w24 78) dd.toInt.toNat x21.toInt x23.toInt := w24p
    have w24b : x23.toInt = 1 ∨ x23.toInt = 0 := by rcases w24q with q | q <;> (have := q.1; omega)
    refine s_if 170 166 rfl rfl rfl (fun (h26 : x23.toInt = 0) => ?_) (fun (h26 : ¬ (x23.toInt = 0)) => ?_)
    · --
      refine s_i (pc1 := 171) (ls1 := [some (.ref 65), some (.int bo), some (.int f), some (.int t), some (.int more), some (.int c), some (.int dd), some (.int be), some (.int a), o9]) (st1 := []) rfl rfl fun x27 e28 => ?_
      have e28t : x27.toInt = 0 := by rw [e28]; rfl
      refine aw_step (f1 := (173, [some (.ref 65), some (.int bo), some (.int f), some (.int t), some (.int more), some (.int c), some (.int dd), some (.int be), some (.int a), some (.int x27)], [])) (w1 := w24) rfl rfl ?_
      refine aw_step (f1 := (175, [some (.ref 65), some (.int bo), some (.int f), some (.int t), some (.int more), some (.int c), some (.int dd), some (.int be), some (.int a), some (.int x27)], [(.int more)])) (w1 := w24) rfl rfl ?_
      refine s_if 188 178 rfl rfl rfl (fun (h29 : ¬ more.toInt = 0) => ?_) (fun (h29 : ¬ (¬ more.toInt = 0)) => ?_)
      · --
        refine s_i (pc1 := 189) (ls1 := [some (.ref 65), some (.int bo), some (.int f), some (.int t), some (.int more), some (.int c), some (.int dd), some (.int be), some (.int a), some (.int x27)]) (st1 := []) rfl rfl fun x30 e31 => ?_
        have e31t : x30.toInt = 1 := by rw [e31]; rfl
        refine aw_step (f1 := (193, [some (.ref 65), some (.int bo), some (.int f), some (.int t), some (.int more), some (.int c), some (.int dd), some (.int be), some (.int a), some (.int x27)], [(.int x30)])) (w1 := w24) rfl rfl ?_
        refine aw_step (f1 := (195, [some (.ref 65), some (.int bo), some (.int f), some (.int t), some (.int x30), some (.int c), some (.int dd), some (.int be), some (.int a), some (.int x27)], [])) (w1 := w24) rfl rfl ?_
        refine aw_step (f1 := (198, [some (.ref 65), some (.int bo), some (.int f), some (.int t), some (.int x30), some (.int c), some (.int (dd + Int32.ofInt 1)), some (.int be), some (.int a), some (.int x27)], [])) (w1 := w24) rfl rfl ?_
        obtain ⟨x32, x32e⟩ : ∃ z, z = (dd + Int32.ofInt 1) := ⟨_, rfl⟩
        have x32t : x32.toInt = dd.toInt + (1) := by rw [x32e]; exact n_add (y := Int32.ofInt (1)) (by show _ ≤ _ + (1 : Int); omega) (by show _ + (1 : Int) ≤ _; omega)
        rw [← x32e]
        refine aw_step (f1 := (48, [some (.ref 65), some (.int bo), some (.int f), some (.int t), some (.int x30), some (.int c), some (.int x32), some (.int be), some (.int a), some (.int x27)], [])) (w1 := w24) rfl rfl ?_
        have hi : x21.toInt = rI w 78 c.toInt.toNat + V 5 := by omega
        have e1 : eV V 1 c.toInt.toNat dd.toInt.toNat := by
          rcases hbe with g | g
          · exact g.2
          · omega
        have ee : ET V (V 4) 0 (V 5) 0 L 0 c.toInt.toNat dd.toInt.toNat (V 5) := (EM_i (by omega) (by omega)).mpr ⟨⟨by omega, hcl⟩, Or.inr ⟨e1, rfl⟩⟩
        exact K w24 x30 x32 _ _ _ (by omega) J25 (O.trans w24o) (B.ck w24q (by omega) (by omega) ee hi) (P.ck w24q (by omega) hi (by omega) (fun s t e q he => by
          by_cases u : s = c.toInt.toNat ∧ t = dd.toInt.toNat
          · have z := (EM_i (by omega) (by omega)).mp he
            rcases z.2 with y | y
            · exact Or.inl (Or.inr ⟨u.1, u.2, y.1, y.2⟩)
            · exact Or.inr ⟨u.1, u.2, y.2⟩
          · left; left; unfold CW at q ⊢; omega))
      · --
        refine aw_step (f1 := (180, [some (.ref 65), some (.int bo), some (.int f), some (.int t), some (.int more), some (.int c), some (.int dd), some (.int be), some (.int a), some (.int x27)], [(.int a)])) (w1 := w24) rfl rfl ?_
        refine s_if 188 183 rfl rfl rfl (fun (h33 : ¬ a.toInt = 0) => ?_) (fun (h33 : ¬ (¬ a.toInt = 0)) => ?_)
        · --
          refine s_i (pc1 := 189) (ls1 := [some (.ref 65), some (.int bo), some (.int f), some (.int t), some (.int more), some (.int c), some (.int dd), some (.int be), some (.int a), some (.int x27)]) (st1 := []) rfl rfl fun x34 e35 => ?_
          have e35t : x34.toInt = 1 := by rw [e35]; rfl
          refine aw_step (f1 := (193, [some (.ref 65), some (.int bo), some (.int f), some (.int t), some (.int more), some (.int c), some (.int dd), some (.int be), some (.int a), some (.int x27)], [(.int x34)])) (w1 := w24) rfl rfl ?_
          refine aw_step (f1 := (195, [some (.ref 65), some (.int bo), some (.int f), some (.int t), some (.int x34), some (.int c), some (.int dd), some (.int be), some (.int a), some (.int x27)], [])) (w1 := w24) rfl rfl ?_
          refine aw_step (f1 := (198, [some (.ref 65), some (.int bo), some (.int f), some (.int t), some (.int x34), some (.int c), some (.int (dd + Int32.ofInt 1)), some (.int be), some (.int a), some (.int x27)], [])) (w1 := w24) rfl rfl ?_
          obtain ⟨x36, x36e⟩ : ∃ z, z = (dd + Int32.ofInt 1) := ⟨_, rfl⟩
          have x36t : x36.toInt = dd.toInt + (1) := by rw [x36e]; exact n_add (y := Int32.ofInt (1)) (by show _ ≤ _ + (1 : Int); omega) (by show _ + (1 : Int) ≤ _; omega)
          rw [← x36e]
          refine aw_step (f1 := (48, [some (.ref 65), some (.int bo), some (.int f), some (.int t), some (.int x34), some (.int c), some (.int x36), some (.int be), some (.int a), some (.int x27)], [])) (w1 := w24) rfl rfl ?_
          have hi : x21.toInt = rI w 78 c.toInt.toNat + V 5 := by omega
          have e1 : eV V 1 c.toInt.toNat dd.toInt.toNat := by
            rcases hbe with g | g
            · exact g.2
            · omega
          have ee : ET V (V 4) 0 (V 5) 0 L 0 c.toInt.toNat dd.toInt.toNat (V 5) := (EM_i (by omega) (by omega)).mpr ⟨⟨by omega, hcl⟩, Or.inr ⟨e1, rfl⟩⟩
          exact K w24 x34 x36 _ _ _ (by omega) J25 (O.trans w24o) (B.ck w24q (by omega) (by omega) ee hi) (P.ck w24q (by omega) hi (by omega) (fun s t e q he => by
            by_cases u : s = c.toInt.toNat ∧ t = dd.toInt.toNat
            · have z := (EM_i (by omega) (by omega)).mp he
              rcases z.2 with y | y
              · exact Or.inl (Or.inr ⟨u.1, u.2, y.1, y.2⟩)
              · exact Or.inr ⟨u.1, u.2, y.2⟩
            · left; left; unfold CW at q ⊢; omega))
        · --
          refine aw_step (f1 := (185, [some (.ref 65), some (.int bo), some (.int f), some (.int t), some (.int more), some (.int c), some (.int dd), some (.int be), some (.int a), some (.int x27)], [(.int x27)])) (w1 := w24) rfl rfl ?_
          refine s_if 192 188 rfl rfl rfl (fun (h37 : x27.toInt = 0) => ?_) (fun (h37 : ¬ (x27.toInt = 0)) => ?_)
          · --
            refine s_i (pc1 := 193) (ls1 := [some (.ref 65), some (.int bo), some (.int f), some (.int t), some (.int more), some (.int c), some (.int dd), some (.int be), some (.int a), some (.int x27)]) (st1 := []) rfl rfl fun x38 e39 => ?_
            have e39t : x38.toInt = 0 := by rw [e39]; rfl
            refine aw_step (f1 := (195, [some (.ref 65), some (.int bo), some (.int f), some (.int t), some (.int x38), some (.int c), some (.int dd), some (.int be), some (.int a), some (.int x27)], [])) (w1 := w24) rfl rfl ?_
            refine aw_step (f1 := (198, [some (.ref 65), some (.int bo), some (.int f), some (.int t), some (.int x38), some (.int c), some (.int (dd + Int32.ofInt 1)), some (.int be), some (.int a), some (.int x27)], [])) (w1 := w24) rfl rfl ?_
            obtain ⟨x40, x40e⟩ : ∃ z, z = (dd + Int32.ofInt 1) := ⟨_, rfl⟩
            have x40t : x40.toInt = dd.toInt + (1) := by rw [x40e]; exact n_add (y := Int32.ofInt (1)) (by show _ ≤ _ + (1 : Int); omega) (by show _ + (1 : Int) ≤ _; omega)
            rw [← x40e]
            refine aw_step (f1 := (48, [some (.ref 65), some (.int bo), some (.int f), some (.int t), some (.int x38), some (.int c), some (.int x40), some (.int be), some (.int a), some (.int x27)], [])) (w1 := w24) rfl rfl ?_
            have hi : x21.toInt = rI w 78 c.toInt.toNat + V 5 := by omega
            have e1 : eV V 1 c.toInt.toNat dd.toInt.toNat := by
              rcases hbe with g | g
              · exact g.2
              · omega
            have ee : ET V (V 4) 0 (V 5) 0 L 0 c.toInt.toNat dd.toInt.toNat (V 5) := (EM_i (by omega) (by omega)).mpr ⟨⟨by omega, hcl⟩, Or.inr ⟨e1, rfl⟩⟩
            exact K w24 x38 x40 _ _ _ (by omega) J25 (O.trans w24o) (B.ck w24q (by omega) (by omega) ee hi) (P.ck w24q (by omega) hi (by omega) (fun s t e q he => by
              by_cases u : s = c.toInt.toNat ∧ t = dd.toInt.toNat
              · have z := (EM_i (by omega) (by omega)).mp he
                rcases z.2 with y | y
                · exact Or.inl (Or.inr ⟨u.1, u.2, y.1, y.2⟩)
                · exact Or.inr ⟨u.1, u.2, y.2⟩
              · left; left; unfold CW at q ⊢; omega))
          · --
            refine s_i (pc1 := 189) (ls1 := [some (.ref 65), some (.int bo), some (.int f), some (.int t), some (.int more), some (.int c), some (.int dd), some (.int be), some (.int a), some (.int x27)]) (st1 := []) rfl rfl fun x41 e42 => ?_
            have e42t : x41.toInt = 1 := by rw [e42]; rfl
            refine aw_step (f1 := (193, [some (.ref 65), some (.int bo), some (.int f), some (.int t), some (.int more), some (.int c), some (.int dd), some (.int be), some (.int a), some (.int x27)], [(.int x41)])) (w1 := w24) rfl rfl ?_
            refine aw_step (f1 := (195, [some (.ref 65), some (.int bo), some (.int f), some (.int t), some (.int x41), some (.int c), some (.int dd), some (.int be), some (.int a), some (.int x27)], [])) (w1 := w24) rfl rfl ?_
            refine aw_step (f1 := (198, [some (.ref 65), some (.int bo), some (.int f), some (.int t), some (.int x41), some (.int c), some (.int (dd + Int32.ofInt 1)), some (.int be), some (.int a), some (.int x27)], [])) (w1 := w24) rfl rfl ?_
            obtain ⟨x43, x43e⟩ : ∃ z, z = (dd + Int32.ofInt 1) := ⟨_, rfl⟩
            have x43t : x43.toInt = dd.toInt + (1) := by rw [x43e]; exact n_add (y := Int32.ofInt (1)) (by show _ ≤ _ + (1 : Int); omega) (by show _ + (1 : Int) ≤ _; omega)
            rw [← x43e]
            refine aw_step (f1 := (48, [some (.ref 65), some (.int bo), some (.int f), some (.int t), some (.int x41), some (.int c), some (.int x43), some (.int be), some (.int a), some (.int x27)], [])) (w1 := w24) rfl rfl ?_
            have hi : x21.toInt = rI w 78 c.toInt.toNat + V 5 := by omega
            have e1 : eV V 1 c.toInt.toNat dd.toInt.toNat := by
              rcases hbe with g | g
              · exact g.2
              · omega
            have ee : ET V (V 4) 0 (V 5) 0 L 0 c.toInt.toNat dd.toInt.toNat (V 5) := (EM_i (by omega) (by omega)).mpr ⟨⟨by omega, hcl⟩, Or.inr ⟨e1, rfl⟩⟩
            exact K w24 x41 x43 _ _ _ (by omega) J25 (O.trans w24o) (B.ck w24q (by omega) (by omega) ee hi) (P.ck w24q (by omega) hi (by omega) (fun s t e q he => by
              by_cases u : s = c.toInt.toNat ∧ t = dd.toInt.toNat
              · have z := (EM_i (by omega) (by omega)).mp he
                rcases z.2 with y | y
                · exact Or.inl (Or.inr ⟨u.1, u.2, y.1, y.2⟩)
                · exact Or.inr ⟨u.1, u.2, y.2⟩
              · left; left; unfold CW at q ⊢; omega))
    · --
      refine s_i (pc1 := 167) (ls1 := [some (.ref 65), some (.int bo), some (.int f), some (.int t), some (.int more), some (.int c), some (.int dd), some (.int be), some (.int a), o9]) (st1 := []) rfl rfl fun x44 e45 => ?_
      have e45t : x44.toInt = 1 := by rw [e45]; rfl
      refine aw_step (f1 := (171, [some (.ref 65), some (.int bo), some (.int f), some (.int t), some (.int more), some (.int c), some (.int dd), some (.int be), some (.int a), o9], [(.int x44)])) (w1 := w24) rfl rfl ?_
      refine aw_step (f1 := (173, [some (.ref 65), some (.int bo), some (.int f), some (.int t), some (.int more), some (.int c), some (.int dd), some (.int be), some (.int a), some (.int x44)], [])) (w1 := w24) rfl rfl ?_
      refine aw_step (f1 := (175, [some (.ref 65), some (.int bo), some (.int f), some (.int t), some (.int more), some (.int c), some (.int dd), some (.int be), some (.int a), some (.int x44)], [(.int more)])) (w1 := w24) rfl rfl ?_
      refine s_if 188 178 rfl rfl rfl (fun (h46 : ¬ more.toInt = 0) => ?_) (fun (h46 : ¬ (¬ more.toInt = 0)) => ?_)
      · --
        refine s_i (pc1 := 189) (ls1 := [some (.ref 65), some (.int bo), some (.int f), some (.int t), some (.int more), some (.int c), some (.int dd), some (.int be), some (.int a), some (.int x44)]) (st1 := []) rfl rfl fun x47 e48 => ?_
        have e48t : x47.toInt = 1 := by rw [e48]; rfl
        refine aw_step (f1 := (193, [some (.ref 65), some (.int bo), some (.int f), some (.int t), some (.int more), some (.int c), some (.int dd), some (.int be), some (.int a), some (.int x44)], [(.int x47)])) (w1 := w24) rfl rfl ?_
        refine aw_step (f1 := (195, [some (.ref 65), some (.int bo), some (.int f), some (.int t), some (.int x47), some (.int c), some (.int dd), some (.int be), some (.int a), some (.int x44)], [])) (w1 := w24) rfl rfl ?_
        refine aw_step (f1 := (198, [some (.ref 65), some (.int bo), some (.int f), some (.int t), some (.int x47), some (.int c), some (.int (dd + Int32.ofInt 1)), some (.int be), some (.int a), some (.int x44)], [])) (w1 := w24) rfl rfl ?_
        obtain ⟨x49, x49e⟩ : ∃ z, z = (dd + Int32.ofInt 1) := ⟨_, rfl⟩
        have x49t : x49.toInt = dd.toInt + (1) := by rw [x49e]; exact n_add (y := Int32.ofInt (1)) (by show _ ≤ _ + (1 : Int); omega) (by show _ + (1 : Int) ≤ _; omega)
        rw [← x49e]
        refine aw_step (f1 := (48, [some (.ref 65), some (.int bo), some (.int f), some (.int t), some (.int x47), some (.int c), some (.int x49), some (.int be), some (.int a), some (.int x44)], [])) (w1 := w24) rfl rfl ?_
        have hi : x21.toInt = rI w 78 c.toInt.toNat + V 5 := by omega
        have e1 : eV V 1 c.toInt.toNat dd.toInt.toNat := by
          rcases hbe with g | g
          · exact g.2
          · omega
        have ee : ET V (V 4) 0 (V 5) 0 L 0 c.toInt.toNat dd.toInt.toNat (V 5) := (EM_i (by omega) (by omega)).mpr ⟨⟨by omega, hcl⟩, Or.inr ⟨e1, rfl⟩⟩
        exact K w24 x47 x49 _ _ _ (by omega) J25 (O.trans w24o) (B.ck w24q (by omega) (by omega) ee hi) (P.ck w24q (by omega) hi (by omega) (fun s t e q he => by
          by_cases u : s = c.toInt.toNat ∧ t = dd.toInt.toNat
          · have z := (EM_i (by omega) (by omega)).mp he
            rcases z.2 with y | y
            · exact Or.inl (Or.inr ⟨u.1, u.2, y.1, y.2⟩)
            · exact Or.inr ⟨u.1, u.2, y.2⟩
          · left; left; unfold CW at q ⊢; omega))
      · --
        refine aw_step (f1 := (180, [some (.ref 65), some (.int bo), some (.int f), some (.int t), some (.int more), some (.int c), some (.int dd), some (.int be), some (.int a), some (.int x44)], [(.int a)])) (w1 := w24) rfl rfl ?_
        refine s_if 188 183 rfl rfl rfl (fun (h50 : ¬ a.toInt = 0) => ?_) (fun (h50 : ¬ (¬ a.toInt = 0)) => ?_)
        · --
          refine s_i (pc1 := 189) (ls1 := [some (.ref 65), some (.int bo), some (.int f), some (.int t), some (.int more), some (.int c), some (.int dd), some (.int be), some (.int a), some (.int x44)]) (st1 := []) rfl rfl fun x51 e52 => ?_
          have e52t : x51.toInt = 1 := by rw [e52]; rfl
          refine aw_step (f1 := (193, [some (.ref 65), some (.int bo), some (.int f), some (.int t), some (.int more), some (.int c), some (.int dd), some (.int be), some (.int a), some (.int x44)], [(.int x51)])) (w1 := w24) rfl rfl ?_
          refine aw_step (f1 := (195, [some (.ref 65), some (.int bo), some (.int f), some (.int t), some (.int x51), some (.int c), some (.int dd), some (.int be), some (.int a), some (.int x44)], [])) (w1 := w24) rfl rfl ?_
          refine aw_step (f1 := (198, [some (.ref 65), some (.int bo), some (.int f), some (.int t), some (.int x51), some (.int c), some (.int (dd + Int32.ofInt 1)), some (.int be), some (.int a), some (.int x44)], [])) (w1 := w24) rfl rfl ?_
          obtain ⟨x53, x53e⟩ : ∃ z, z = (dd + Int32.ofInt 1) := ⟨_, rfl⟩
          have x53t : x53.toInt = dd.toInt + (1) := by rw [x53e]; exact n_add (y := Int32.ofInt (1)) (by show _ ≤ _ + (1 : Int); omega) (by show _ + (1 : Int) ≤ _; omega)
          rw [← x53e]
          refine aw_step (f1 := (48, [some (.ref 65), some (.int bo), some (.int f), some (.int t), some (.int x51), some (.int c), some (.int x53), some (.int be), some (.int a), some (.int x44)], [])) (w1 := w24) rfl rfl ?_
          have hi : x21.toInt = rI w 78 c.toInt.toNat + V 5 := by omega
          have e1 : eV V 1 c.toInt.toNat dd.toInt.toNat := by
            rcases hbe with g | g
            · exact g.2
            · omega
          have ee : ET V (V 4) 0 (V 5) 0 L 0 c.toInt.toNat dd.toInt.toNat (V 5) := (EM_i (by omega) (by omega)).mpr ⟨⟨by omega, hcl⟩, Or.inr ⟨e1, rfl⟩⟩
          exact K w24 x51 x53 _ _ _ (by omega) J25 (O.trans w24o) (B.ck w24q (by omega) (by omega) ee hi) (P.ck w24q (by omega) hi (by omega) (fun s t e q he => by
            by_cases u : s = c.toInt.toNat ∧ t = dd.toInt.toNat
            · have z := (EM_i (by omega) (by omega)).mp he
              rcases z.2 with y | y
              · exact Or.inl (Or.inr ⟨u.1, u.2, y.1, y.2⟩)
              · exact Or.inr ⟨u.1, u.2, y.2⟩
            · left; left; unfold CW at q ⊢; omega))
        · --
          refine aw_step (f1 := (185, [some (.ref 65), some (.int bo), some (.int f), some (.int t), some (.int more), some (.int c), some (.int dd), some (.int be), some (.int a), some (.int x44)], [(.int x44)])) (w1 := w24) rfl rfl ?_
          refine s_if 192 188 rfl rfl rfl (fun (h54 : x44.toInt = 0) => ?_) (fun (h54 : ¬ (x44.toInt = 0)) => ?_)
          · --
            refine s_i (pc1 := 193) (ls1 := [some (.ref 65), some (.int bo), some (.int f), some (.int t), some (.int more), some (.int c), some (.int dd), some (.int be), some (.int a), some (.int x44)]) (st1 := []) rfl rfl fun x55 e56 => ?_
            have e56t : x55.toInt = 0 := by rw [e56]; rfl
            refine aw_step (f1 := (195, [some (.ref 65), some (.int bo), some (.int f), some (.int t), some (.int x55), some (.int c), some (.int dd), some (.int be), some (.int a), some (.int x44)], [])) (w1 := w24) rfl rfl ?_
            refine aw_step (f1 := (198, [some (.ref 65), some (.int bo), some (.int f), some (.int t), some (.int x55), some (.int c), some (.int (dd + Int32.ofInt 1)), some (.int be), some (.int a), some (.int x44)], [])) (w1 := w24) rfl rfl ?_
            obtain ⟨x57, x57e⟩ : ∃ z, z = (dd + Int32.ofInt 1) := ⟨_, rfl⟩
            have x57t : x57.toInt = dd.toInt + (1) := by rw [x57e]; exact n_add (y := Int32.ofInt (1)) (by show _ ≤ _ + (1 : Int); omega) (by show _ + (1 : Int) ≤ _; omega)
            rw [← x57e]
            refine aw_step (f1 := (48, [some (.ref 65), some (.int bo), some (.int f), some (.int t), some (.int x55), some (.int c), some (.int x57), some (.int be), some (.int a), some (.int x44)], [])) (w1 := w24) rfl rfl ?_
            have hi : x21.toInt = rI w 78 c.toInt.toNat + V 5 := by omega
            have e1 : eV V 1 c.toInt.toNat dd.toInt.toNat := by
              rcases hbe with g | g
              · exact g.2
              · omega
            have ee : ET V (V 4) 0 (V 5) 0 L 0 c.toInt.toNat dd.toInt.toNat (V 5) := (EM_i (by omega) (by omega)).mpr ⟨⟨by omega, hcl⟩, Or.inr ⟨e1, rfl⟩⟩
            exact K w24 x55 x57 _ _ _ (by omega) J25 (O.trans w24o) (B.ck w24q (by omega) (by omega) ee hi) (P.ck w24q (by omega) hi (by omega) (fun s t e q he => by
              by_cases u : s = c.toInt.toNat ∧ t = dd.toInt.toNat
              · have z := (EM_i (by omega) (by omega)).mp he
                rcases z.2 with y | y
                · exact Or.inl (Or.inr ⟨u.1, u.2, y.1, y.2⟩)
                · exact Or.inr ⟨u.1, u.2, y.2⟩
              · left; left; unfold CW at q ⊢; omega))
          · --
            refine s_i (pc1 := 189) (ls1 := [some (.ref 65), some (.int bo), some (.int f), some (.int t), some (.int more), some (.int c), some (.int dd), some (.int be), some (.int a), some (.int x44)]) (st1 := []) rfl rfl fun x58 e59 => ?_
            have e59t : x58.toInt = 1 := by rw [e59]; rfl
            refine aw_step (f1 := (193, [some (.ref 65), some (.int bo), some (.int f), some (.int t), some (.int more), some (.int c), some (.int dd), some (.int be), some (.int a), some (.int x44)], [(.int x58)])) (w1 := w24) rfl rfl ?_
            refine aw_step (f1 := (195, [some (.ref 65), some (.int bo), some (.int f), some (.int t), some (.int x58), some (.int c), some (.int dd), some (.int be), some (.int a), some (.int x44)], [])) (w1 := w24) rfl rfl ?_
            refine aw_step (f1 := (198, [some (.ref 65), some (.int bo), some (.int f), some (.int t), some (.int x58), some (.int c), some (.int (dd + Int32.ofInt 1)), some (.int be), some (.int a), some (.int x44)], [])) (w1 := w24) rfl rfl ?_
            obtain ⟨x60, x60e⟩ : ∃ z, z = (dd + Int32.ofInt 1) := ⟨_, rfl⟩
            have x60t : x60.toInt = dd.toInt + (1) := by rw [x60e]; exact n_add (y := Int32.ofInt (1)) (by show _ ≤ _ + (1 : Int); omega) (by show _ + (1 : Int) ≤ _; omega)
            rw [← x60e]
            refine aw_step (f1 := (48, [some (.ref 65), some (.int bo), some (.int f), some (.int t), some (.int x58), some (.int c), some (.int x60), some (.int be), some (.int a), some (.int x44)], [])) (w1 := w24) rfl rfl ?_
            have hi : x21.toInt = rI w 78 c.toInt.toNat + V 5 := by omega
            have e1 : eV V 1 c.toInt.toNat dd.toInt.toNat := by
              rcases hbe with g | g
              · exact g.2
              · omega
            have ee : ET V (V 4) 0 (V 5) 0 L 0 c.toInt.toNat dd.toInt.toNat (V 5) := (EM_i (by omega) (by omega)).mpr ⟨⟨by omega, hcl⟩, Or.inr ⟨e1, rfl⟩⟩
            exact K w24 x58 x60 _ _ _ (by omega) J25 (O.trans w24o) (B.ck w24q (by omega) (by omega) ee hi) (P.ck w24q (by omega) hi (by omega) (fun s t e q he => by
              by_cases u : s = c.toInt.toNat ∧ t = dd.toInt.toNat
              · have z := (EM_i (by omega) (by omega)).mp he
                rcases z.2 with y | y
                · exact Or.inl (Or.inr ⟨u.1, u.2, y.1, y.2⟩)
                · exact Or.inr ⟨u.1, u.2, y.2⟩
              · left; left; unfold CW at q ⊢; omega))
theorem f_timeB {d : Nat} {Q : Option Value → am_W → Prop} {w00 wb : am_W} {V : Nat → Int} {L : Int} (R00 : RMs wb V) (lr00 : lrV V L (rL wb 74)) (bo f t more c dd be : Int32) (o8 o9 : Option Value) (hc : 0 ≤ c.toInt ∧ c.toInt < szV V) (hbe : (be.toInt = 1 ∧ eV V 1 c.toInt.toNat dd.toInt.toNat) ∨ (be.toInt = 0 ∧ ¬ eV V 1 c.toInt.toNat dd.toInt.toNat)) (hcl : V (40 + c.toInt.toNat) ≠ 126) (hd : 0 ≤ dd.toInt ∧ dd.toInt < szV V) (K : ∀ (w : am_W) (m2 d2 : Int32) (o7 o8 o9 : Option Value), d2.toInt = dd.toInt + 1 → ab_J ab_TT ab_sets ab_WR w00 w → only [78] wb w → bfI (ET V (V 4) 0 (V 5) 0 L 0) f.toInt.toNat (rI w 78) → psI (ET V (V 4) 0 (V 5) 0 L 0) (rI wb 78) m2.toInt (rI w 78) (CW c.toInt.toNat d2.toInt.toNat) → aw none (d + 3) 151 Q (48, [some (.ref 65), some (.int bo), some (.int f), some (.int t), some (.int m2), some (.int c), some (.int d2), o7, o8, o9], []) w) (w : am_W) (J : ab_J ab_TT ab_sets ab_WR w00 w) (O : only [78] wb w) (B : bfI (ET V (V 4) 0 (V 5) 0 L 0) f.toInt.toNat (rI w 78)) (hr : rI w 78 c.toInt.toNat < 100000) (P : psI (ET V (V 4) 0 (V 5) 0 L 0) (rI wb 78) more.toInt (rI w 78) (CW c.toInt.toNat dd.toInt.toNat)) : aw none (d + 3) 151 Q (97, [some (.ref 65), some (.int bo), some (.int f), some (.int t), some (.int more), some (.int c), some (.int dd), some (.int be), o8, o9], []) w := by
  have R := R00.o78 O
  have szm := szM_in J.1
  have hsz := R.sz
  have v45 := tm_45 R J.1
  have r4 := R.f4
  have mb := P.m01
  have lr : lrV V L (rL w 74) := fun a b h => by rw [O.rLe (by decide)]; exact lr00 a b h
  refine aw_step (f1 := (98, [some (.ref 65), some (.int bo), some (.int f), some (.int t), some (.int more), some (.int c), some (.int dd), some (.int be), o8, o9], [(.ref 65)])) (w1 := w) rfl rfl ?_
  refine s_gr 74 J 101 rfl rfl rfl rfl rfl rfl ?_
  refine aw_step (f1 := (103, [some (.ref 65), some (.int bo), some (.int f), some (.int t), some (.int more), some (.int c), some (.int dd), some (.int be), o8, o9], [(.int c), (.ref 74)])) (w1 := w) rfl rfl ?_
  refine s_la J 104 rfl rfl rfl (by omega) (by omega) fun y1 y1a y1b y1f => ?_
  have ly : rL w 74 c.toInt.toNat = n64 y1 := rL_of y1f
  have lrc := lr c.toInt.toNat dd.toInt.toNat (by omega)
  rw [ly] at lrc
  refine aw_step (f1 := (106, [some (.ref 65), some (.int bo), some (.int f), some (.int t), some (.int more), some (.int c), some (.int dd), some (.int be), o8, o9], [(.int dd), (.long y1)])) (w1 := w) rfl rfl ?_
  refine s_cs (z := 110) (as := [(.long y1), (.int dd)]) (st1 := []) 109 rfl rfl rfl rfl rfl rfl (Nat.le_of_ble_eq_true rfl) (Nat.le_of_ble_eq_true rfl) (Nat.le_of_ble_eq_true rfl) (q_has y1 dd (by omega) (by omega)) ?_
  rintro _ _ ⟨rfl, x2, rfl, x2t⟩
  refine ⟨rfl, ?_⟩
  show aw none _ 151 _ (109, [some (.ref 65), some (.int bo), some (.int f), some (.int t), some (.int more), some (.int c), some (.int dd), some (.int be), o8, o9], [(.int x2)]) w
  have x2l := bt_le (n64 y1) dd.toInt.toNat
  refine s_if 137 112 rfl rfl rfl (fun (h3 : x2.toInt = 0) => ?_) (fun (h3 : ¬ (x2.toInt = 0)) => ?_)
  · --
    refine s_i (pc1 := 138) (ls1 := [some (.ref 65), some (.int bo), some (.int f), some (.int t), some (.int more), some (.int c), some (.int dd), some (.int be), o8, o9]) (st1 := []) rfl rfl fun x4 e5 => ?_
    have e5t : x4.toInt = 0 := by rw [e5]; rfl
    refine aw_step (f1 := (140, [some (.ref 65), some (.int bo), some (.int f), some (.int t), some (.int more), some (.int c), some (.int dd), some (.int be), some (.int x4), o9], [])) (w1 := w) rfl rfl ?_
    refine f_timeC R00 lr00 bo f t more c dd be x4 _ hc hbe hcl hd K w more.toInt (by omega) (by omega) J O B hr (P.no rfl (fun s t e q he => ?_))
    rcases q with q | ⟨q1, q2, q3, q4⟩
    · exact q
    · rw [q1, q2] at q3
      have := lrc.mpr ⟨hcl, q3⟩
      omega
  · --
    refine aw_step (f1 := (113, [some (.ref 65), some (.int bo), some (.int f), some (.int t), some (.int more), some (.int c), some (.int dd), some (.int be), o8, o9], [(.ref 65)])) (w1 := w) rfl rfl ?_
    refine aw_step (f1 := (115, [some (.ref 65), some (.int bo), some (.int f), some (.int t), some (.int more), some (.int c), some (.int dd), some (.int be), o8, o9], [(.int dd), (.ref 65)])) (w1 := w) rfl rfl ?_
    refine aw_step (f1 := (116, [some (.ref 65), some (.int bo), some (.int f), some (.int t), some (.int more), some (.int c), some (.int dd), some (.int be), o8, o9], [(.ref 65), (.int dd), (.ref 65)])) (w1 := w) rfl rfl ?_
    refine s_gr 78 J 119 rfl rfl rfl rfl rfl rfl ?_
    refine aw_step (f1 := (121, [some (.ref 65), some (.int bo), some (.int f), some (.int t), some (.int more), some (.int c), some (.int dd), some (.int be), o8, o9], [(.int c), (.ref 78), (.int dd), (.ref 65)])) (w1 := w) rfl rfl ?_
    refine s_ia J 122 rfl rfl rfl rfl (by omega) (by omega) fun x6 x6a x6b x6f => ?_
    have x6v : x6.toInt = rI w 78 c.toInt.toNat := by rw [← rI_of x6f]
    refine aw_step (f1 := (123, [some (.ref 65), some (.int bo), some (.int f), some (.int t), some (.int more), some (.int c), some (.int dd), some (.int be), o8, o9], [(.ref 65), (.int x6), (.int dd), (.ref 65)])) (w1 := w) rfl rfl ?_
    refine s_gi J 126 rfl rfl rfl rfl rfl rfl fun x7 x7a x7b x7f => ?_
    have x7v : x7.toInt = fI w 65 7 := by rw [← fI_of x7f]
    refine s_i (pc1 := 127) (ls1 := [some (.ref 65), some (.int bo), some (.int f), some (.int t), some (.int more), some (.int c), some (.int dd), some (.int be), o8, o9]) (st1 := [(.int dd), (.ref 65)]) rfl rfl fun x8 e9 => ?_
    have e9 : x8 = x6 + x7 := e9
    have e9t : x8.toInt = x6.toInt + x7.toInt := by rw [e9]; exact n_add (by omega) (by omega)
    refine s_cv (z := 147) (p := 65) (as := [(.int dd), (.int x8)]) (st1 := []) J 130 rfl rfl rfl rfl rfl rfl rfl rfl (Nat.le_of_ble_eq_true rfl) (Nat.le_of_ble_eq_true rfl) (q_cheapen dd x8 ⟨by omega, by omega⟩ (by omega) J.1) ?_
    rintro _ w11 ⟨x10, rfl, J12c, w11o, w11p⟩
    have J12 := J.trans J12c
    refine ⟨am_len2 J J12c, ?_⟩
    show aw none _ 151 _ (130, [some (.ref 65), some (.int bo), some (.int f), some (.int t), some (.int more), some (.int c), some (.int dd), some (.int be), o8, o9], [(.int x10)]) w11
    have w11q : cpI (rI w 78) (rI w11 78) dd.toInt.toNat x8.toInt x10.toInt := w11p
    have w11b : x10.toInt = 1 ∨ x10.toInt = 0 := by rcases w11q with q | q <;> (have := q.1; omega)
    refine s_if 137 133 rfl rfl rfl (fun (h13 : x10.toInt = 0) => ?_) (fun (h13 : ¬ (x10.toInt = 0)) => ?_)
    · --
      refine s_i (pc1 := 138) (ls1 := [some (.ref 65), some (.int bo), some (.int f), some (.int t), some (.int more), some (.int c), some (.int dd), some (.int be), o8, o9]) (st1 := []) rfl rfl fun x14 e15 => ?_
      have e15t : x14.toInt = 0 := by rw [e15]; rfl
      refine aw_step (f1 := (140, [some (.ref 65), some (.int bo), some (.int f), some (.int t), some (.int more), some (.int c), some (.int dd), some (.int be), some (.int x14), o9], [])) (w1 := w11) rfl rfl ?_
      have hi : x8.toInt = rI w 78 c.toInt.toNat + V 4 := by omega
      have e1 : eV V L c.toInt.toNat dd.toInt.toNat := (lrc.mp (by omega)).2
      have ee : ET V (V 4) 0 (V 5) 0 L 0 c.toInt.toNat dd.toInt.toNat (V 4) := (EM_i (by omega) (by omega)).mpr ⟨⟨by omega, hcl⟩, Or.inl ⟨e1, rfl⟩⟩
      have hr2 : rI w11 78 c.toInt.toNat < 100000 := by have := w11q.le c.toInt.toNat; omega
      refine f_timeC R00 lr00 bo f t more c dd be x14 _ hc hbe hcl hd K w11 (if more.toInt = 1 ∨ x10.toInt = 1 then 1 else 0) (by split <;> omega) (by omega) J12 (O.trans w11o) (B.ck w11q (by omega) (by omega) ee hi) hr2 (P.ck w11q (by omega) hi (by split <;> omega) (fun s t e q he => ?_))
      rcases q with q | ⟨q1, q2, q3, q4⟩
      · exact Or.inl q
      · exact Or.inr ⟨q1, q2, q4⟩
    · --
      refine s_i (pc1 := 134) (ls1 := [some (.ref 65), some (.int bo), some (.int f), some (.int t), some (.int more), some (.int c), some (.int dd), some (.int be), o8, o9]) (st1 := []) rfl rfl fun x16 e17 => ?_
      have e17t : x16.toInt = 1 := by rw [e17]; rfl
      refine aw_step (f1 := (138, [some (.ref 65), some (.int bo), some (.int f), some (.int t), some (.int more), some (.int c), some (.int dd), some (.int be), o8, o9], [(.int x16)])) (w1 := w11) rfl rfl ?_
      refine aw_step (f1 := (140, [some (.ref 65), some (.int bo), some (.int f), some (.int t), some (.int more), some (.int c), some (.int dd), some (.int be), some (.int x16), o9], [])) (w1 := w11) rfl rfl ?_
      have hi : x8.toInt = rI w 78 c.toInt.toNat + V 4 := by omega
      have e1 : eV V L c.toInt.toNat dd.toInt.toNat := (lrc.mp (by omega)).2
      have ee : ET V (V 4) 0 (V 5) 0 L 0 c.toInt.toNat dd.toInt.toNat (V 4) := (EM_i (by omega) (by omega)).mpr ⟨⟨by omega, hcl⟩, Or.inl ⟨e1, rfl⟩⟩
      have hr2 : rI w11 78 c.toInt.toNat < 100000 := by have := w11q.le c.toInt.toNat; omega
      refine f_timeC R00 lr00 bo f t more c dd be x16 _ hc hbe hcl hd K w11 (if more.toInt = 1 ∨ x10.toInt = 1 then 1 else 0) (by split <;> omega) (by omega) J12 (O.trans w11o) (B.ck w11q (by omega) (by omega) ee hi) hr2 (P.ck w11q (by omega) hi (by split <;> omega) (fun s t e q he => ?_))
      rcases q with q | ⟨q1, q2, q3, q4⟩
      · exact Or.inl q
      · exact Or.inr ⟨q1, q2, q4⟩
theorem f_timeI {d : Nat} {Q : Option Value → am_W → Prop} {w00 wb : am_W} {V : Nat → Int} {L : Int} (R00 : RMs wb V) (lr00 : lrV V L (rL wb 74)) (bo f t c : Int32) (hf : ((f.toInt.toNat : Nat) : Int) < szV V ∧ V (40 + f.toInt.toNat) ≠ 126) (hc : 0 ≤ c.toInt ∧ c.toInt < szV V) (K : ∀ (w : am_W) (more dd : Int32) (o7 o8 o9 : Option Value), ab_J ab_TT ab_sets ab_WR w00 w → only [78] wb w → bfI (ET V (V 4) 0 (V 5) 0 L 0) f.toInt.toNat (rI w 78) → psI (ET V (V 4) 0 (V 5) 0 L 0) (rI wb 78) more.toInt (rI w 78) (CW (c.toInt.toNat + 1) 0) → aw none (d + 3) 151 Q (201, [some (.ref 65), some (.int bo), some (.int f), some (.int t), some (.int more), some (.int c), some (.int dd), o7, o8, o9], []) w) : ∀ (m : Nat) (w : am_W) (more dd : Int32) (o7 o8 o9 : Option Value), (szV V - dd.toInt).toNat < m → 0 ≤ dd.toInt → dd.toInt ≤ szV V → ab_J ab_TT ab_sets ab_WR w00 w → only [78] wb w → bfI (ET V (V 4) 0 (V 5) 0 L 0) f.toInt.toNat (rI w 78) → psI (ET V (V 4) 0 (V 5) 0 L 0) (rI wb 78) more.toInt (rI w 78) (CW c.toInt.toNat dd.toInt.toNat) → aw none (d + 3) 151 Q (48, [some (.ref 65), some (.int bo), some (.int f), some (.int t), some (.int more), some (.int c), some (.int dd), o7, o8, o9], []) w := by
  intro m
  induction m with
  | zero => intro w more dd o7 o8 o9 p; omega
  | succ m ih =>
    intro w more dd o7 o8 o9 p1 p2 p3 J O B P
    have R := R00.o78 O
    have szm := szM_in J.1
    have hsz := R.sz
    have lr : lrV V L (rL w 74) := fun a b h => by rw [O.rLe (by decide)]; exact lr00 a b h
    have mb := P.m01
    have zb := ab_any32 more
    unfold ab_lo32 ab_hi32 at zb
    have v45 := tm_45 R J.1
    refine aw_step (f1 := (50, [some (.ref 65), some (.int bo), some (.int f), some (.int t), some (.int more), some (.int c), some (.int dd), o7, o8, o9], [(.int dd)])) (w1 := w) rfl rfl ?_
    refine aw_step (f1 := (51, [some (.ref 65), some (.int bo), some (.int f), some (.int t), some (.int more), some (.int c), some (.int dd), o7, o8, o9], [(.ref 65), (.int dd)])) (w1 := w) rfl rfl ?_
    refine s_cv (z := 113) (p := 65) (as := []) (st1 := [(.int dd)]) J 54 rfl rfl rfl rfl rfl rfl rfl rfl (Nat.le_of_ble_eq_true rfl) (Nat.le_of_ble_eq_true rfl) (q_cells J.1) ?_
    rintro _ _ ⟨rfl, x1, rfl, x1t⟩
    refine ⟨rfl, ?_⟩
    show aw none _ 151 _ (54, [some (.ref 65), some (.int bo), some (.int f), some (.int t), some (.int more), some (.int c), some (.int dd), o7, o8, o9], [(.int x1), (.int dd)]) w
    have x1s := szM_in J.1
    refine s_ic 201 57 rfl rfl rfl (fun (h2 : x1.toInt ≤ dd.toInt) => ?_) (fun (h2 : ¬ (x1.toInt ≤ dd.toInt)) => ?_)
    · --
      first
        | exact K w more dd _ _ _ J O B (P.sk (c := c.toInt.toNat) (by omega) (fun s t e q => by unfold CW at q ⊢; omega))
        | exact K w more dd _ _ _ J O B (P.no rfl (fun s t e q he => by
            by_cases u : s = c.toInt.toNat
            · have := (show (t : Int) < szV V from by rcases ((EM_i (by omega) (by omega)).mp he).2 with y | y <;> exact y.1.1.1)
              exact Or.inr ⟨u, by omega⟩
            · unfold CW at q ⊢; omega))
    · --
      refine aw_step (f1 := (58, [some (.ref 65), some (.int bo), some (.int f), some (.int t), some (.int more), some (.int c), some (.int dd), o7, o8, o9], [(.ref 65)])) (w1 := w) rfl rfl ?_
      refine s_gr 78 J 61 rfl rfl rfl rfl rfl rfl ?_
      refine aw_step (f1 := (63, [some (.ref 65), some (.int bo), some (.int f), some (.int t), some (.int more), some (.int c), some (.int dd), o7, o8, o9], [(.int c), (.ref 78)])) (w1 := w) rfl rfl ?_
      refine s_ia J 64 rfl rfl rfl rfl (by omega) (by omega) fun x3 x3a x3b x3f => ?_
      have x3v : x3.toInt = rI w 78 c.toInt.toNat := by rw [← rI_of x3f]
      refine s_i (pc1 := 66) (ls1 := [some (.ref 65), some (.int bo), some (.int f), some (.int t), some (.int more), some (.int c), some (.int dd), o7, o8, o9]) (st1 := [(.int x3)]) rfl rfl fun x4 e5 => ?_
      have e5t : x4.toInt = 100000 := by rw [e5]; rfl
      refine s_ic 201 69 rfl rfl rfl (fun (h6 : x4.toInt ≤ x3.toInt) => ?_) (fun (h6 : ¬ (x4.toInt ≤ x3.toInt)) => ?_)
      · --
        first
          | exact K w more dd _ _ _ J O B (P.sk (c := c.toInt.toNat) (by omega) (fun s t e q => by unfold CW at q ⊢; omega))
          | exact K w more dd _ _ _ J O B (P.no rfl (fun s t e q he => by
              by_cases u : s = c.toInt.toNat
              · have := (show (t : Int) < szV V from by rcases ((EM_i (by omega) (by omega)).mp he).2 with y | y <;> exact y.1.1.1)
                exact Or.inr ⟨u, by omega⟩
              · unfold CW at q ⊢; omega))
      · --
        refine aw_step (f1 := (70, [some (.ref 65), some (.int bo), some (.int f), some (.int t), some (.int more), some (.int c), some (.int dd), o7, o8, o9], [(.ref 65)])) (w1 := w) rfl rfl ?_
        refine aw_step (f1 := (72, [some (.ref 65), some (.int bo), some (.int f), some (.int t), some (.int more), some (.int c), some (.int dd), o7, o8, o9], [(.int dd), (.ref 65)])) (w1 := w) rfl rfl ?_
        refine s_cv (z := 115) (p := 65) (as := [(.int dd)]) (st1 := []) J 75 rfl rfl rfl rfl rfl rfl rfl rfl (Nat.le_of_ble_eq_true rfl) (Nat.le_of_ble_eq_true rfl) (q_isLand dd J.1) ?_
        rintro _ _ ⟨rfl, x7, rfl, x7t⟩
        refine ⟨rfl, ?_⟩
        show aw none _ 151 _ (75, [some (.ref 65), some (.int bo), some (.int f), some (.int t), some (.int more), some (.int c), some (.int dd), o7, o8, o9], [(.int x7)]) w
        have x7s := szM_in J.1
        refine s_if 94 78 rfl rfl rfl (fun (h8 : x7.toInt = 0) => ?_) (fun (h8 : ¬ (x7.toInt = 0)) => ?_)
        · --
          refine s_i (pc1 := 95) (ls1 := [some (.ref 65), some (.int bo), some (.int f), some (.int t), some (.int more), some (.int c), some (.int dd), o7, o8, o9]) (st1 := []) rfl rfl fun x9 e10 => ?_
          have e10t : x9.toInt = 0 := by rw [e10]; rfl
          refine aw_step (f1 := (97, [some (.ref 65), some (.int bo), some (.int f), some (.int t), some (.int more), some (.int c), some (.int dd), some (.int x9), o8, o9], [])) (w1 := w) rfl rfl ?_
          have hcl : V (40 + c.toInt.toNat) ≠ 126 := by
            rcases B.2 c.toInt.toNat (by omega) with q | ⟨q, nw, q2⟩
            · omega
            · obtain ⟨sd, c1, g1, g2, g3⟩ := wk_ld (by omega) hf q2
              have e1 : c1 = c.toInt.toNat := by omega
              rw [← e1]
              exact g3.2.2
          have sqc : sqM (V 1) (dd.toInt.toNat : Nat) (c.toInt.toNat : Nat) = sqM (fI w 65 1) c.toInt dd.toInt := by
            rw [R.f1, sqM_c, show ((dd.toInt.toNat : Nat) : Int) = dd.toInt by omega, show ((c.toInt.toNat : Nat) : Int) = c.toInt by omega]
          have hla := R.rc (i := dd.toInt.toNat) (by omega)
          refine f_timeB R00 lr00 bo f t more c dd x9 _ _ hc ?_ hcl ⟨by omega, by omega⟩ (fun w2 m2 d2 o7 o8 o9 h1 J2 O2 B2 P2 => ih w2 m2 d2 o7 o8 o9 (by omega) (by omega) (by omega) J2 O2 B2 P2) w J O B (by omega) P
          first
            | exact Or.inl ⟨by omega, ⟨by omega, by omega⟩, by omega⟩
            | exact Or.inr ⟨by omega, fun z => by have z1 := z.1; have z2 := z.2; omega⟩
        · --
          refine aw_step (f1 := (79, [some (.ref 65), some (.int bo), some (.int f), some (.int t), some (.int more), some (.int c), some (.int dd), o7, o8, o9], [(.ref 65)])) (w1 := w) rfl rfl ?_
          refine aw_step (f1 := (81, [some (.ref 65), some (.int bo), some (.int f), some (.int t), some (.int more), some (.int c), some (.int dd), o7, o8, o9], [(.int c), (.ref 65)])) (w1 := w) rfl rfl ?_
          refine aw_step (f1 := (83, [some (.ref 65), some (.int bo), some (.int f), some (.int t), some (.int more), some (.int c), some (.int dd), o7, o8, o9], [(.int dd), (.int c), (.ref 65)])) (w1 := w) rfl rfl ?_
          refine s_cv (z := 130) (p := 65) (as := [(.int c), (.int dd)]) (st1 := []) J 86 rfl rfl rfl rfl rfl rfl rfl rfl (Nat.le_of_ble_eq_true rfl) (Nat.le_of_ble_eq_true rfl) (q_square c dd ⟨by omega, by omega⟩ ⟨by omega, by omega⟩ J.1) ?_
          rintro _ _ ⟨rfl, x11, rfl, x11t⟩
          refine ⟨rfl, ?_⟩
          show aw none _ 151 _ (86, [some (.ref 65), some (.int bo), some (.int f), some (.int t), some (.int more), some (.int c), some (.int dd), o7, o8, o9], [(.int x11)]) w
          refine s_i (pc1 := 87) (ls1 := [some (.ref 65), some (.int bo), some (.int f), some (.int t), some (.int more), some (.int c), some (.int dd), o7, o8, o9]) (st1 := [(.int x11)]) rfl rfl fun x12 e13 => ?_
          have e13t : x12.toInt = 1 := by rw [e13]; rfl
          refine s_ic 94 90 rfl rfl rfl (fun (h14 : ¬ x11.toInt = x12.toInt) => ?_) (fun (h14 : ¬ (¬ x11.toInt = x12.toInt)) => ?_)
          · --
            refine s_i (pc1 := 95) (ls1 := [some (.ref 65), some (.int bo), some (.int f), some (.int t), some (.int more), some (.int c), some (.int dd), o7, o8, o9]) (st1 := []) rfl rfl fun x15 e16 => ?_
            have e16t : x15.toInt = 0 := by rw [e16]; rfl
            refine aw_step (f1 := (97, [some (.ref 65), some (.int bo), some (.int f), some (.int t), some (.int more), some (.int c), some (.int dd), some (.int x15), o8, o9], [])) (w1 := w) rfl rfl ?_
            have hcl : V (40 + c.toInt.toNat) ≠ 126 := by
              rcases B.2 c.toInt.toNat (by omega) with q | ⟨q, nw, q2⟩
              · omega
              · obtain ⟨sd, c1, g1, g2, g3⟩ := wk_ld (by omega) hf q2
                have e1 : c1 = c.toInt.toNat := by omega
                rw [← e1]
                exact g3.2.2
            have sqc : sqM (V 1) (dd.toInt.toNat : Nat) (c.toInt.toNat : Nat) = sqM (fI w 65 1) c.toInt dd.toInt := by
              rw [R.f1, sqM_c, show ((dd.toInt.toNat : Nat) : Int) = dd.toInt by omega, show ((c.toInt.toNat : Nat) : Int) = c.toInt by omega]
            have hla := R.rc (i := dd.toInt.toNat) (by omega)
            refine f_timeB R00 lr00 bo f t more c dd x15 _ _ hc ?_ hcl ⟨by omega, by omega⟩ (fun w2 m2 d2 o7 o8 o9 h1 J2 O2 B2 P2 => ih w2 m2 d2 o7 o8 o9 (by omega) (by omega) (by omega) J2 O2 B2 P2) w J O B (by omega) P
            first
              | exact Or.inl ⟨by omega, ⟨by omega, by omega⟩, by omega⟩
              | exact Or.inr ⟨by omega, fun z => by have z1 := z.1; have z2 := z.2; omega⟩
          · --
            refine s_i (pc1 := 91) (ls1 := [some (.ref 65), some (.int bo), some (.int f), some (.int t), some (.int more), some (.int c), some (.int dd), o7, o8, o9]) (st1 := []) rfl rfl fun x17 e18 => ?_
            have e18t : x17.toInt = 1 := by rw [e18]; rfl
            refine aw_step (f1 := (95, [some (.ref 65), some (.int bo), some (.int f), some (.int t), some (.int more), some (.int c), some (.int dd), o7, o8, o9], [(.int x17)])) (w1 := w) rfl rfl ?_
            refine aw_step (f1 := (97, [some (.ref 65), some (.int bo), some (.int f), some (.int t), some (.int more), some (.int c), some (.int dd), some (.int x17), o8, o9], [])) (w1 := w) rfl rfl ?_
            have hcl : V (40 + c.toInt.toNat) ≠ 126 := by
              rcases B.2 c.toInt.toNat (by omega) with q | ⟨q, nw, q2⟩
              · omega
              · obtain ⟨sd, c1, g1, g2, g3⟩ := wk_ld (by omega) hf q2
                have e1 : c1 = c.toInt.toNat := by omega
                rw [← e1]
                exact g3.2.2
            have sqc : sqM (V 1) (dd.toInt.toNat : Nat) (c.toInt.toNat : Nat) = sqM (fI w 65 1) c.toInt dd.toInt := by
              rw [R.f1, sqM_c, show ((dd.toInt.toNat : Nat) : Int) = dd.toInt by omega, show ((c.toInt.toNat : Nat) : Int) = c.toInt by omega]
            have hla := R.rc (i := dd.toInt.toNat) (by omega)
            refine f_timeB R00 lr00 bo f t more c dd x17 _ _ hc ?_ hcl ⟨by omega, by omega⟩ (fun w2 m2 d2 o7 o8 o9 h1 J2 O2 B2 P2 => ih w2 m2 d2 o7 o8 o9 (by omega) (by omega) (by omega) J2 O2 B2 P2) w J O B (by omega) P
            first
              | exact Or.inl ⟨by omega, ⟨by omega, by omega⟩, by omega⟩
              | exact Or.inr ⟨by omega, fun z => by have z1 := z.1; have z2 := z.2; omega⟩
theorem f_timeJ {d : Nat} {Q : Option Value → am_W → Prop} {w00 wb : am_W} {V : Nat → Int} {L : Int} (R00 : RMs wb V) (lr00 : lrV V L (rL wb 74)) (bo f t : Int32) (hf : ((f.toInt.toNat : Nat) : Int) < szV V ∧ V (40 + f.toInt.toNat) ≠ 126) (K : ∀ (w : am_W) (more c : Int32) (o6 o7 o8 o9 : Option Value), ab_J ab_TT ab_sets ab_WR w00 w → only [78] wb w → bfI (ET V (V 4) 0 (V 5) 0 L 0) f.toInt.toNat (rI w 78) → psI (ET V (V 4) 0 (V 5) 0 L 0) (rI wb 78) more.toInt (rI w 78) (CW (szV V).toNat 0) → aw none (d + 3) 151 Q (207, [some (.ref 65), some (.int bo), some (.int f), some (.int t), some (.int more), some (.int c), o6, o7, o8, o9], []) w) : ∀ (m : Nat) (w : am_W) (more c : Int32) (o6 o7 o8 o9 : Option Value), (szV V - c.toInt).toNat < m → 0 ≤ c.toInt → c.toInt ≤ szV V → ab_J ab_TT ab_sets ab_WR w00 w → only [78] wb w → bfI (ET V (V 4) 0 (V 5) 0 L 0) f.toInt.toNat (rI w 78) → psI (ET V (V 4) 0 (V 5) 0 L 0) (rI wb 78) more.toInt (rI w 78) (CW c.toInt.toNat 0) → aw none (d + 3) 151 Q (36, [some (.ref 65), some (.int bo), some (.int f), some (.int t), some (.int more), some (.int c), o6, o7, o8, o9], []) w := by
  intro m
  induction m with
  | zero => intro w more c o6 o7 o8 o9 p; omega
  | succ m ih =>
    intro w more c o6 o7 o8 o9 p1 p2 p3 J O B P
    have R := R00.o78 O
    have szm := szM_in J.1
    have hsz := R.sz
    refine aw_step (f1 := (38, [some (.ref 65), some (.int bo), some (.int f), some (.int t), some (.int more), some (.int c), o6, o7, o8, o9], [(.int c)])) (w1 := w) rfl rfl ?_
    refine aw_step (f1 := (39, [some (.ref 65), some (.int bo), some (.int f), some (.int t), some (.int more), some (.int c), o6, o7, o8, o9], [(.ref 65), (.int c)])) (w1 := w) rfl rfl ?_
    refine s_cv (z := 113) (p := 65) (as := []) (st1 := [(.int c)]) J 42 rfl rfl rfl rfl rfl rfl rfl rfl (Nat.le_of_ble_eq_true rfl) (Nat.le_of_ble_eq_true rfl) (q_cells J.1) ?_
    rintro _ _ ⟨rfl, x1, rfl, x1t⟩
    refine ⟨rfl, ?_⟩
    show aw none _ 151 _ (42, [some (.ref 65), some (.int bo), some (.int f), some (.int t), some (.int more), some (.int c), o6, o7, o8, o9], [(.int x1), (.int c)]) w
    have x1s := szM_in J.1
    refine s_ic 207 45 rfl rfl rfl (fun (h2 : x1.toInt ≤ c.toInt) => ?_) (fun (h2 : ¬ (x1.toInt ≤ c.toInt)) => ?_)
    · --
      exact K w more c _ _ _ _ J O B (by rw [show (szV V).toNat = c.toInt.toNat by omega]; exact P)
    · --
      refine s_i (pc1 := 46) (ls1 := [some (.ref 65), some (.int bo), some (.int f), some (.int t), some (.int more), some (.int c), o6, o7, o8, o9]) (st1 := []) rfl rfl fun x3 e4 => ?_
      have e4t : x3.toInt = 0 := by rw [e4]; rfl
      refine aw_step (f1 := (48, [some (.ref 65), some (.int bo), some (.int f), some (.int t), some (.int more), some (.int c), some (.int x3), o7, o8, o9], [])) (w1 := w) rfl rfl ?_
      refine f_timeI R00 lr00 bo f t c hf ⟨by omega, by omega⟩ (fun w9 m9 d9 q7 q8 q9 J9 O9 B9 P9 => ?_) 37 w more x3 _ _ _ (by omega) (by omega) (by omega) J O B (by rw [show x3.toInt.toNat = 0 by omega]; exact P)
      refine aw_step (f1 := (204, [some (.ref 65), some (.int bo), some (.int f), some (.int t), some (.int m9), some (.int (c + Int32.ofInt 1)), some (.int d9), q7, q8, q9], [])) (w1 := w9) rfl rfl ?_
      obtain ⟨zx1, zx1e⟩ : ∃ z, z = (c + Int32.ofInt 1) := ⟨_, rfl⟩
      have zx1t : zx1.toInt = c.toInt + (1) := by rw [zx1e]; exact n_add (y := Int32.ofInt (1)) (by show _ ≤ _ + (1 : Int); omega) (by show _ + (1 : Int) ≤ _; omega)
      rw [← zx1e]
      refine aw_step (f1 := (36, [some (.ref 65), some (.int bo), some (.int f), some (.int t), some (.int m9), some (.int zx1), some (.int d9), q7, q8, q9], [])) (w1 := w9) rfl rfl ?_
      exact ih w9 m9 zx1 _ _ _  _ (by omega) (by omega) (by omega) J9 O9 B9 (by rw [show zx1.toInt.toNat = c.toInt.toNat + 1 by omega]; exact P9)
theorem f_timeO {d : Nat} {w00 w0 : am_W} {V : Nat → Int} {L : Int} (R00 : RMs w0 V) (lr00 : lrV V L (rL w0 74)) (bo f t : Int32) (hf : ((f.toInt.toNat : Nat) : Int) < szV V ∧ V (40 + f.toInt.toNat) ≠ 126) (ht : 0 ≤ t.toInt ∧ t.toInt < szV V) (hE : ∀ s t e, (ET V (V 4) 0 (V 5) 0 L 0) s t e → t < 72 ∧ 0 ≤ e ∧ e ≤ 1000) : ∀ (m : Nat) (w : am_W) (more : Int32) (o5 o6 o7 o8 o9 : Option Value), (sC w).toNat + more.toInt.toNat < m → ab_J ab_TT ab_sets ab_WR w00 w → only [78] w0 w → bfI (ET V (V 4) 0 (V 5) 0 L 0) f.toInt.toNat (rI w 78) → (more.toInt = 1 ∨ (more.toInt = 0 ∧ ∀ s t e, s < 72 → rI w 78 s < 100000 → (ET V (V 4) 0 (V 5) 0 L 0) s t e → rI w 78 t ≤ rI w 78 s + e)) → aw none (d + 3) 151 (fun r w1 => ab_J ab_TT ab_sets ab_WR w00 w1 ∧ ∃ z : Int32, r = some (.int z) ∧ trR (ET V (V 4) 0 (V 5) 0 L 0) f.toInt.toNat t.toInt.toNat z.toInt) (25, [some (.ref 65), some (.int bo), some (.int f), some (.int t), some (.int more), o5, o6, o7, o8, o9], []) w := by
  intro m
  induction m with
  | zero => intro w more o5 o6 o7 o8 o9 p; omega
  | succ m ih =>
    intro w more o5 o6 o7 o8 o9 p1 J O B F
    have R := R00.o78 O
    have szm := szM_in J.1
    have hsz := R.sz
    have lr : lrV V L (rL w 74) := fun a b h => by rw [O.rLe (by decide)]; exact lr00 a b h
    have mb : more.toInt = 1 ∨ more.toInt = 0 := by
      rcases F with q | q
      · exact Or.inl q
      · exact Or.inr q.1
    refine aw_step (f1 := (27, [some (.ref 65), some (.int bo), some (.int f), some (.int t), some (.int more), o5, o6, o7, o8, o9], [(.int more)])) (w1 := w) rfl rfl ?_
    refine s_if 210 30 rfl rfl rfl (fun (h1 : more.toInt = 0) => ?_) (fun (h1 : ¬ (more.toInt = 0)) => ?_)
    · --
      refine aw_step (f1 := (211, [some (.ref 65), some (.int bo), some (.int f), some (.int t), some (.int more), o5, o6, o7, o8, o9], [(.ref 65)])) (w1 := w) rfl rfl ?_
      refine s_gr 78 J 214 rfl rfl rfl rfl rfl rfl ?_
      refine aw_step (f1 := (215, [some (.ref 65), some (.int bo), some (.int f), some (.int t), some (.int more), o5, o6, o7, o8, o9], [(.int t), (.ref 78)])) (w1 := w) rfl rfl ?_
      refine s_ia J 216 rfl rfl rfl rfl (by omega) (by omega) fun x2 x2a x2b x2f => ?_
      have x2v : x2.toInt = rI w 78 t.toInt.toNat := by rw [← rI_of x2f]
      refine s_i (pc1 := 218) (ls1 := [some (.ref 65), some (.int bo), some (.int f), some (.int t), some (.int more), o5, o6, o7, o8, o9]) (st1 := [(.int x2)]) rfl rfl fun x3 e4 => ?_
      have e4t : x3.toInt = 100000 := by rw [e4]; rfl
      refine s_ic 226 221 rfl rfl rfl (fun (h5 : ¬ x2.toInt = x3.toInt) => ?_) (fun (h5 : ¬ (¬ x2.toInt = x3.toInt)) => ?_)
      · --
        refine aw_step (f1 := (227, [some (.ref 65), some (.int bo), some (.int f), some (.int t), some (.int more), o5, o6, o7, o8, o9], [(.ref 65)])) (w1 := w) rfl rfl ?_
        refine s_gr 78 J 230 rfl rfl rfl rfl rfl rfl ?_
        refine aw_step (f1 := (231, [some (.ref 65), some (.int bo), some (.int f), some (.int t), some (.int more), o5, o6, o7, o8, o9], [(.int t), (.ref 78)])) (w1 := w) rfl rfl ?_
        refine s_ia J 232 rfl rfl rfl rfl (by omega) (by omega) fun x6 x6a x6b x6f => ?_
        have x6v : x6.toInt = rI w 78 t.toInt.toNat := by rw [← rI_of x6f]
        refine aw_ret (v := some (.int x6)) rfl rfl ?_
        have FX := F.resolve_left (fun q => by omega)
        have fin : ∀ u, u < 72 → (rI w 78 u = 100000 ∧ nvT (ET V (V 4) 0 (V 5) 0 L 0) f.toInt.toNat u) ∨ (rI w 78 u < 100000 ∧ mnT (ET V (V 4) 0 (V 5) 0 L 0) f.toInt.toNat u (rI w 78 u)) := fun u hu => fxT (by decide) (by omega) hE B.1 B.2 FX.2 hu
        have fa := fin t.toInt.toNat (by omega)
        have fb := fin (36 + t.toInt.toNat) (by omega)
        have f36 : rI w 78 (36 + t.toInt.toNat) = 100000 := by
          rcases B.2 (36 + t.toInt.toNat) (by omega) with u | ⟨u, nw, u2⟩
          · exact u
          · have := wk_36 (by omega) (by omega) u2; omega
        have ta := rI_78 J.1 (j := t.toInt.toNat) (by omega)
        exact ⟨J, x6, rfl, trR.of fa fb (by clear fa fb fin F FX; omega)⟩
      · --
        refine s_i (pc1 := 223) (ls1 := [some (.ref 65), some (.int bo), some (.int f), some (.int t), some (.int more), o5, o6, o7, o8, o9]) (st1 := []) rfl rfl fun x7 e8 => ?_
        have e8t : x7.toInt = -6 := by rw [e8]; rfl
        refine aw_step (f1 := (232, [some (.ref 65), some (.int bo), some (.int f), some (.int t), some (.int more), o5, o6, o7, o8, o9], [(.int x7)])) (w1 := w) rfl rfl ?_
        refine aw_ret (v := some (.int x7)) rfl rfl ?_
        have FX := F.resolve_left (fun q => by omega)
        have fin : ∀ u, u < 72 → (rI w 78 u = 100000 ∧ nvT (ET V (V 4) 0 (V 5) 0 L 0) f.toInt.toNat u) ∨ (rI w 78 u < 100000 ∧ mnT (ET V (V 4) 0 (V 5) 0 L 0) f.toInt.toNat u (rI w 78 u)) := fun u hu => fxT (by decide) (by omega) hE B.1 B.2 FX.2 hu
        have fa := fin t.toInt.toNat (by omega)
        have fb := fin (36 + t.toInt.toNat) (by omega)
        have f36 : rI w 78 (36 + t.toInt.toNat) = 100000 := by
          rcases B.2 (36 + t.toInt.toNat) (by omega) with u | ⟨u, nw, u2⟩
          · exact u
          · have := wk_36 (by omega) (by omega) u2; omega
        have ta := rI_78 J.1 (j := t.toInt.toNat) (by omega)
        exact ⟨J, x7, rfl, trR.of fa fb (by clear fa fb fin F FX; omega)⟩
    · --
      refine s_i (pc1 := 31) (ls1 := [some (.ref 65), some (.int bo), some (.int f), some (.int t), some (.int more), o5, o6, o7, o8, o9]) (st1 := []) rfl rfl fun x9 e10 => ?_
      have e10t : x9.toInt = 0 := by rw [e10]; rfl
      refine aw_step (f1 := (33, [some (.ref 65), some (.int bo), some (.int f), some (.int t), some (.int x9), o5, o6, o7, o8, o9], [])) (w1 := w) rfl rfl ?_
      refine s_i (pc1 := 34) (ls1 := [some (.ref 65), some (.int bo), some (.int f), some (.int t), some (.int x9), o5, o6, o7, o8, o9]) (st1 := []) rfl rfl fun x11 e12 => ?_
      have e12t : x11.toInt = 0 := by rw [e12]; rfl
      refine aw_step (f1 := (36, [some (.ref 65), some (.int bo), some (.int f), some (.int t), some (.int x9), some (.int x11), o6, o7, o8, o9], [])) (w1 := w) rfl rfl ?_
      refine f_timeJ R lr bo f t hf (fun w9 m9 c9 q6 q7 q8 q9 J9 O9 B9 P9 => ?_) 37 w x9 x11 _ _ _ _ (by omega) (by omega) (by omega) J only.rf B (by rw [show x11.toInt.toNat = 0 by omega]; exact Or.inr ⟨by omega, fun j => rfl, fun s t e q => by unfold CW at q; omega⟩)
      refine aw_step (f1 := (25, [some (.ref 65), some (.int bo), some (.int f), some (.int t), some (.int m9), some (.int c9), q6, q7, q8, q9], [])) (w1 := w9) rfl rfl ?_
      refine ih w9 m9 _ _ _ _ _  (by have s9 := P9.sc; have := sC_0 J9.1; have := sC_0 J.1; unfold sC at *; omega) J9 ((O.trans O9)) B9 ?_
      rcases P9 with q | ⟨q1, q2, q3⟩
      · exact Or.inl q.1
      · refine Or.inr ⟨q1, fun s t e hs hb he => ?_⟩
        rw [q2 s] at hb ⊢
        rw [q2 t]
        refine q3 s t e (Or.inl ?_) hb he
        obtain ⟨sd, c1, g1, g2, g3, g4⟩ := he
        have s36 : s < 36 := by
          rcases B9.2 s hs with u | ⟨u, nw, u2⟩
          · rw [q2 s] at u; omega
          · exact wk_36 (by omega) (by omega) u2
        omega
theorem f_time {d : Nat} {w : am_W} {V : Nat → Int} (R : RMs w V) (bo f t : Int32) (I : ab_inv ab_TT ab_sets w) : aw none (d + 6) 151 (fun r w1 => ab_J ab_TT ab_sets ab_WR w w1 ∧ ∃ z : Int32, r = some (.int z) ∧ timP V bo.toInt f.toInt t.toInt z.toInt) (0, am_entry 151 [.ref 65, .int bo, .int f, .int t], []) w := by
  have J : ab_J ab_TT ab_sets ab_WR w w := ⟨I, ab_fr.rf⟩
  have szm := szM_in I
  have hsz := R.sz
  have hl0 : ∀ c : Int32, 0 ≤ c.toInt → c.toInt < szV V → rI w 66 c.toInt.toNat = V (40 + c.toInt.toNat) := fun c a b => R.rc (by omega)
  show aw none (d + 6) 151 _ (0, [some (.ref 65), some (.int bo), some (.int f), some (.int t), none, none, none, none, none, none], []) w
  refine aw_step (f1 := (1, [some (.ref 65), some (.int bo), some (.int f), some (.int t), none, none, none, none, none, none], [(.ref 65)])) (w1 := w) rfl rfl ?_
  refine aw_step (f1 := (2, [some (.ref 65), some (.int bo), some (.int f), some (.int t), none, none, none, none, none, none], [(.int bo), (.ref 65)])) (w1 := w) rfl rfl ?_
  refine aw_step (f1 := (3, [some (.ref 65), some (.int bo), some (.int f), some (.int t), none, none, none, none, none, none], [(.int f), (.int bo), (.ref 65)])) (w1 := w) rfl rfl ?_
  refine aw_step (f1 := (4, [some (.ref 65), some (.int bo), some (.int f), some (.int t), none, none, none, none, none, none], [(.int t), (.int f), (.int bo), (.ref 65)])) (w1 := w) rfl rfl ?_
  refine s_cv (z := 143) (p := 65) (as := [(.int bo), (.int f), (.int t)]) (st1 := []) J 7 rfl rfl rfl rfl rfl rfl rfl rfl (Nat.le_of_ble_eq_true rfl) (Nat.le_of_ble_eq_true rfl) (q_isAsked bo f t J.1) ?_
  rintro _ _ ⟨rfl, x1, rfl, x1t⟩
  refine ⟨rfl, ?_⟩
  show aw none _ 151 _ (7, [some (.ref 65), some (.int bo), some (.int f), some (.int t), none, none, none, none, none, none], [(.int x1)]) w
  have x1s := szM_in J.1
  refine s_if 12 10 rfl rfl rfl (fun (h2 : ¬ x1.toInt = 0) => ?_) (fun (h2 : ¬ (¬ x1.toInt = 0)) => ?_)
  · --
    refine aw_step (f1 := (13, [some (.ref 65), some (.int bo), some (.int f), some (.int t), none, none, none, none, none, none], [(.ref 65)])) (w1 := w) rfl rfl ?_
    refine aw_step (f1 := (14, [some (.ref 65), some (.int bo), some (.int f), some (.int t), none, none, none, none, none, none], [(.int bo), (.ref 65)])) (w1 := w) rfl rfl ?_
    refine s_cv (z := 133) (p := 65) (as := [(.int bo)]) (st1 := []) J 17 rfl rfl rfl rfl rfl rfl rfl rfl (Nat.le_of_ble_eq_true rfl) (Nat.le_of_ble_eq_true rfl) (q_putOn bo ⟨by omega, by omega⟩ J.1) ?_
    rintro _ w3 ⟨rfl, J4c, w3o, w3p⟩
    have J4 := J.trans J4c
    refine ⟨am_len2 J J4c, ?_⟩
    show aw none _ 151 _ (17, [some (.ref 65), some (.int bo), some (.int f), some (.int t), none, none, none, none, none, none], []) w3
    refine aw_step (f1 := (18, [some (.ref 65), some (.int bo), some (.int f), some (.int t), none, none, none, none, none, none], [(.ref 65)])) (w1 := w3) rfl rfl ?_
    refine aw_step (f1 := (19, [some (.ref 65), some (.int bo), some (.int f), some (.int t), none, none, none, none, none, none], [(.int f), (.ref 65)])) (w1 := w3) rfl rfl ?_
    refine s_cv (z := 146) (p := 65) (as := [(.int f)]) (st1 := []) J4 22 rfl rfl rfl rfl rfl rfl rfl rfl (Nat.le_of_ble_eq_true rfl) (Nat.le_of_ble_eq_true rfl) (q_beginCosts f ⟨by omega, by omega⟩ J4.1) ?_
    rintro _ w5 ⟨rfl, J6c, w5o, w5p0, w5p⟩
    have J6 := J4.trans J6c
    refine ⟨am_len2 J4 J6c, ?_⟩
    show aw none _ 151 _ (22, [some (.ref 65), some (.int bo), some (.int f), some (.int t), none, none, none, none, none, none], []) w5
    refine s_i (pc1 := 23) (ls1 := [some (.ref 65), some (.int bo), some (.int f), some (.int t), none, none, none, none, none, none]) (st1 := []) rfl rfl fun x7 e8 => ?_
    have e8t : x7.toInt = 1 := by rw [e8]; rfl
    refine aw_step (f1 := (25, [some (.ref 65), some (.int bo), some (.int f), some (.int t), some (.int x7), none, none, none, none, none], [])) (w1 := w5) rfl rfl ?_
    have hlf := hl0 f (by omega) (by omega)
    have hlt := hl0 t (by omega) (by omega)
    have l67 : rI w 67 bo.toInt.toNat = V (8 + 4 * bo.toInt.toNat + 0) := R.ra (i := bo.toInt.toNat) (c := 0) (by omega) (by decide)
    have lr := rowM_V R (by omega) w3p
    rw [l67] at lr
    have lr2 : lrV V (V (8 + 4 * bo.toInt.toNat + 0)) (rL w5 74) := fun a b h => by rw [w5o.rLe (by decide)]; exact lr a b h
    have R2 := R.wr I J6
    have v45 := tm_45 R I
    refine (f_timeO R2 lr2 bo f t ⟨by omega, by omega⟩ ⟨by omega, by omega⟩ (ET_b (by omega) (by unfold okT; omega)) ((sC w5).toNat + 2) w5 x7 _ _ _ _ _ (by omega) J6 only.rf ⟨by omega, fun u hu => ?_⟩ (Or.inl (by omega))).mono ?_
    · by_cases e : u = f.toInt.toNat
      · subst e
        exact Or.inr ⟨by omega, 0, rfl, w5p0⟩
      · exact Or.inl (w5p u hu e)
    · rintro r w1 ⟨J9, z, rfl, hz⟩
      exact ⟨J9, z, rfl, Or.inr ⟨⟨⟨by omega, by omega⟩, ⟨by omega, by omega, by omega⟩, by omega, by omega, by omega⟩, hz⟩⟩
  · --
    refine s_i (pc1 := 11) (ls1 := [some (.ref 65), some (.int bo), some (.int f), some (.int t), none, none, none, none, none, none]) (st1 := []) rfl rfl fun x9 e10 => ?_
    have e10t : x9.toInt = -1 := by rw [e10]; rfl
    refine aw_ret (v := some (.int x9)) rfl rfl ?_
    exact ⟨J, x9, rfl, Or.inl ⟨by omega, by have := hl0 f; have := hl0 t; omega⟩⟩
