/-! ===== the typed world ===== -/
section ABW
variable {T : List ab_C} {sets : List (List Nat)} {wr : ab_wT} {w w0 : am_W} {σ : List Int} {E : ab_E}
theorem ab_rootb : am_root.all (fun x => decide (-1 ≤ x.toInt) && decide (x.toInt ≤ 5)) = true := by decide +kernel
theorem ab_cellR_inv {kd n : Nat} {a : ab_S} {lo hi : Int} {v : Value} (h : ab_cellR T kd a sets = some (n, lo, hi)) (hs : ab_sl sets σ a v) : ∃ p, v = .ref p ∧ ((p < am_B ∧ T[p]? = some (.inl (kd, n, lo, hi))) ∨ (p = am_B ∧ kd = 0 ∧ n = 26 ∧ lo = -1 ∧ hi = 5)) := by
  unfold ab_cellR at h
  cases h2 : Nat.beq a.1 2 with
  | true =>
    rw [h2] at h
    simp only [cond_true] at h
    refine ⟨a.2.1, ab_sl_r hs h2, ?_⟩
    cases h3 : Nat.blt a.2.1 am_B with
    | true =>
      rw [h3] at h
      simp only [cond_true] at h
      split at h
      · rename_i k1 n1 l1 h1 ht
        obtain ⟨g1, g2⟩ := am_bif h
        cases g2
        cases Nat.eq_of_beq_eq_true g1
        exact Or.inl ⟨am_blt h3, ht⟩
      · cases h
    | false =>
      rw [h3] at h
      simp only [cond_false] at h
      obtain ⟨g1, g2⟩ := am_bif h
      cases g2
      obtain ⟨g3, g4⟩ := am_and g1
      exact Or.inr ⟨Nat.eq_of_beq_eq_true g3, Nat.eq_of_beq_eq_true g4, rfl, rfl, rfl⟩
  | false =>
    rw [h2] at h
    simp only [cond_false] at h
    obtain ⟨h3, h4⟩ := am_bif h
    obtain ⟨p, hp, hm⟩ := ab_sl_q hs h3
    refine ⟨p, hp, Or.inl ?_⟩
    split at h4
    · rename_i p0 ps hps
      split at h4
      · rename_i k1 n1 l1 h1 ht
        obtain ⟨g1, g2⟩ := am_bif h4
        cases g2
        obtain ⟨g3, g4⟩ := am_and g1
        obtain ⟨g5, g6⟩ := am_and g4
        cases Nat.eq_of_beq_eq_true g3
        rw [hps] at hm
        exact ⟨am_blt (List.all_eq_true.mp g6 p hm), of_decide_eq_true (List.all_eq_true.mp g5 p hm)⟩
      · cases h4
    · cases h4
theorem ab_rd_i {n : Nat} {a : ab_S} {lo hi : Int} {v : Value} (h : ab_cellR T 0 a sets = some (n, lo, hi)) (hs : ab_sl sets σ a v) (hI : ab_inv T sets w) : ∃ p l, v = .ref p ∧ am_ints none w p = some l ∧ l.length = n ∧ ∀ x ∈ l, lo ≤ x.toInt ∧ x.toInt ≤ hi := by
  obtain ⟨p, hp, h1⟩ := ab_cellR_inv h hs
  rcases h1 with ⟨h1, h2⟩ | ⟨rfl, -, rfl, rfl, rfl⟩
  · obtain ⟨q, g1, g2⟩ := hI.2 p _ h2
    rcases g2 with ⟨-, l, rfl, g3, g4⟩ | ⟨g, -⟩ | ⟨g, -⟩ | g
    · refine ⟨p, l, hp, ?_, g3, g4⟩
      unfold am_ints
      rw [show Nat.blt p am_B = true from Nat.ble_eq_true_of_le h1, g1]
      rfl
    · cases g
    · cases g
    · cases g
  · refine ⟨am_B, am_root, hp, rfl, rfl, fun x hx => ?_⟩
    have := am_and (List.all_eq_true.mp ab_rootb x hx)
    exact ⟨of_decide_eq_true this.1, of_decide_eq_true this.2⟩
theorem ab_rd_z {n : Nat} {a : ab_S} {lo hi : Int} {v : Value} (h : ab_cellR T 1 a sets = some (n, lo, hi)) (hs : ab_sl sets σ a v) (hI : ab_inv T sets w) : ∃ p l, v = .ref p ∧ T[p]? = some (.inl (1, n, lo, hi)) ∧ w[p]? = some (.inl (.inl (1, l))) ∧ l.length = n ∧ (lo ≤ 0 ∧ 1 ≤ hi) ∧ ∀ x ∈ l, lo ≤ x.toInt ∧ x.toInt ≤ hi := by
  obtain ⟨p, hp, h1⟩ := ab_cellR_inv h hs
  rcases h1 with ⟨h1, h2⟩ | ⟨-, g, -⟩
  · obtain ⟨q, g1, g2⟩ := hI.2 p _ h2
    rcases g2 with ⟨g, -⟩ | ⟨-, g5, g6, l, rfl, g3, g4⟩ | ⟨g, -⟩ | g
    · cases g
    · exact ⟨p, l, hp, h2, g1, g3, ⟨g5, g6⟩, g4⟩
    · cases g
    · cases g
  · cases g
theorem ab_rd_l {n : Nat} {a : ab_S} {lo hi : Int} {v : Value} (h : ab_cellR T 2 a sets = some (n, lo, hi)) (hs : ab_sl sets σ a v) (hI : ab_inv T sets w) : ∃ p l, v = .ref p ∧ T[p]? = some (.inl (2, n, lo, hi)) ∧ w[p]? = some (.inl (.inr (.inl l))) ∧ l.length = n ∧ ∀ x ∈ l, lo ≤ x.toInt ∧ x.toInt ≤ hi := by
  obtain ⟨p, hp, h1⟩ := ab_cellR_inv h hs
  rcases h1 with ⟨h1, h2⟩ | ⟨-, g, -⟩
  · obtain ⟨q, g1, g2⟩ := hI.2 p _ h2
    rcases g2 with ⟨g, -⟩ | ⟨g, -⟩ | ⟨-, l, rfl, g3, g4⟩ | g
    · cases g
    · cases g
    · exact ⟨p, l, hp, h2, g1, g3, g4⟩
    · cases g
  · cases g
theorem ab_wr_in {a : ab_S} {p : Nat} (h : ab_wr wr a sets = true) (hs : ab_sl sets σ a (.ref p)) : p ∈ wr.1 := by
  unfold ab_wr at h
  cases h2 : Nat.beq a.1 2 with
  | true =>
    rw [h2] at h
    have e := ab_sl_r hs h2
    cases e
    exact List.contains_iff_mem.mp h
  | false =>
    rw [h2] at h
    simp only [cond_false] at h
    obtain ⟨h3, h4⟩ : Nat.beq a.1 3 = true ∧ (sets.getD a.2.1 []).all (fun p => wr.1.contains p) = true := by
      cases h3 : Nat.beq a.1 3 with
      | true => rw [h3] at h; exact ⟨rfl, h⟩
      | false => rw [h3] at h; cases h
    obtain ⟨q, e, hm⟩ := ab_sl_q hs h3
    cases e
    exact List.contains_iff_mem.mp (List.all_eq_true.mp h4 p hm)
theorem ab_put {p : Nat} {t : ab_C} {q : am_C} (hJ : ab_J T sets wr w0 w) (hp : p ∈ wr.1) (ht : T[p]? = some t) (hq : ab_vC sets t q) : ab_J T sets wr w0 (w.set p q) := by
  obtain ⟨⟨h1, h2⟩, h3⟩ := hJ
  refine ⟨⟨by rw [List.length_set]; exact h1, fun a t' hT => ?_⟩, h3.trans ⟨fun a ha _ => ?_, fun a c fs0 ha h0 => ?_⟩⟩
  · by_cases e : p = a
    · subst e
      rw [ht] at hT
      cases hT
      exact ⟨q, by rw [List.getElem?_set_self]; rw [h1]; exact (List.getElem?_eq_some_iff.mp ht).1, hq⟩
    · obtain ⟨q', g1, g2⟩ := h2 a t' hT
      exact ⟨q', by rw [List.getElem?_set_ne e]; exact g1, g2⟩
  · have hne : p ≠ a := fun e => ha (by rw [← e]; exact hp)
    rw [List.getElem?_set_ne hne]
  · have hne : p ≠ a := fun e => ha (by rw [← e]; exact hp)
    exact ⟨fs0, by rw [List.getElem?_set_ne hne]; exact h0, fun _ _ => rfl⟩
/-- a field -/
theorem ab_putf_J {p ci kf : Nat} {ts : List ab_F} {fs : List Value} {v : Value} (hJ : ab_J T sets wr w0 w) (hp : p ∈ wr.1 ∨ (p, kf) ∈ wr.2) (ht : T[p]? = some (.inr (ci, ts))) (hw : w[p]? = some (.inr (ci, fs))) (hq : ab_vC sets (.inr (ci, ts)) (.inr (ci, fs.set kf v))) : ab_J T sets wr w0 (w.set p (.inr (ci, fs.set kf v))) := by
  rcases hp with hp | hp
  · exact ab_put hJ hp ht hq
  obtain ⟨⟨h1, h2⟩, h3⟩ := hJ
  have hl : p < w.length := (List.getElem?_eq_some_iff.mp hw).1
  refine ⟨⟨by rw [List.length_set]; exact h1, fun a t' hT => ?_⟩, h3.trans ⟨fun a ha hk => ?_, fun a c fs0 ha h0 => ?_⟩⟩
  · by_cases e : p = a
    · subst e
      rw [ht] at hT
      cases hT
      exact ⟨_, List.getElem?_set_self hl, hq⟩
    · obtain ⟨q', g1, g2⟩ := h2 a t' hT
      exact ⟨q', by rw [List.getElem?_set_ne e]; exact g1, g2⟩
  · have hne : p ≠ a := fun e => hk kf (by rw [← e]; exact hp)
    rw [List.getElem?_set_ne hne]
  · by_cases e : p = a
    · subst e
      rw [hw] at h0
      cases h0
      refine ⟨fs.set kf v, List.getElem?_set_self hl, fun k hk => ?_⟩
      have hne : kf ≠ k := fun e => hk (by rw [← e]; exact hp)
      rw [List.getElem?_set_ne hne]
    · exact ⟨fs0, by rw [List.getElem?_set_ne e]; exact h0, fun _ _ => rfl⟩
theorem ab_inb {q : Int × Int} {n : Nat} {i : Int32} (h : ab_in q n = true) (h1 : q.1 ≤ i.toInt) (h2 : i.toInt ≤ q.2) : vp_in i n := by
  obtain ⟨g1, g2⟩ := am_and h
  have g1 := of_decide_eq_true g1
  have g2 := of_decide_eq_true g2
  exact vp_in_iff.mpr ⟨by omega, by omega⟩
theorem ab_getD {α : Type} {l : List α} {i : Nat} {d : α} (h : i < l.length) : l.getD i d ∈ l := by
  rw [List.getD_eq_getElem?_getD, List.getElem?_eq_getElem h]
  exact List.getElem_mem h
theorem ab_is_vF {s : ab_S} {t : ab_F} {v : Value} (h : ab_is sets E s t = true) (hs : ab_sl sets σ s v) (he : ab_env E σ) : ab_vF sets t v := by
  unfold ab_is at h
  cases h0 : (Nat.beq t.1 0 || Nat.beq t.1 1) with
  | true =>
    rw [h0] at h
    simp only [cond_true] at h
    obtain ⟨g1, g2⟩ := am_and h
    obtain ⟨g2, g3⟩ := am_and g2
    have g1 := Nat.eq_of_beq_eq_true g1
    have g2 := of_decide_eq_true g2
    have g3 := of_decide_eq_true g3
    rcases Bool.or_eq_true _ _ |>.mp h0 with q | q
    · have q := Nat.eq_of_beq_eq_true q
      obtain ⟨x, e, hl, hx⟩ := ab_sl_i hs (by rw [g1, q]; rfl)
      have := ab_iv_of he hl hx
      exact Or.inl ⟨q, x, e, by omega, by omega⟩
    · have q := Nat.eq_of_beq_eq_true q
      obtain ⟨x, e, hl, hx⟩ := ab_sl_l hs (by rw [g1, q]; rfl)
      have := ab_iv_of he hl hx
      exact Or.inr (Or.inl ⟨q, x, e, by omega, by omega⟩)
  | false =>
    rw [h0] at h
    simp only [cond_false] at h
    cases h2 : Nat.beq t.1 2 with
    | true =>
      rw [h2] at h
      simp only [cond_true] at h
      obtain ⟨g1, g2⟩ := am_and h
      exact Or.inr (Or.inr (Or.inl ⟨Nat.eq_of_beq_eq_true h2, s.2.1, ab_sl_r hs g1, of_decide_eq_true g2⟩))
    | false =>
      rw [h2] at h
      simp only [cond_false] at h
      obtain ⟨h3, h4⟩ : Nat.beq t.1 3 = true ∧ (decide (0 ≤ t.2.1) && (bif Nat.beq s.1 2 then (sets.getD t.2.1.toNat []).contains s.2.1 else Nat.beq s.1 3 && decide ((s.2.1 : Int) = t.2.1))) = true := by
        cases h3 : Nat.beq t.1 3 with
        | true => rw [h3] at h; exact ⟨rfl, h⟩
        | false => rw [h3] at h; cases h
      obtain ⟨h5, h4⟩ := am_and h4
      refine Or.inr (Or.inr (Or.inr ⟨Nat.eq_of_beq_eq_true h3, ?_⟩))
      cases h6 : Nat.beq s.1 2 with
      | true =>
        rw [h6] at h4
        exact ⟨s.2.1, ab_sl_r hs h6, List.contains_iff_mem.mp h4, of_decide_eq_true h5⟩
      | false =>
        rw [h6] at h4
        simp only [cond_false] at h4
        obtain ⟨g1, g2⟩ := am_and h4
        obtain ⟨p, e, hm⟩ := ab_sl_q hs g1
        have : t.2.1.toNat = s.2.1 := by have := of_decide_eq_true g2; omega
        exact ⟨p, e, by rw [this]; exact hm, of_decide_eq_true h5⟩
theorem ab_of_sl {t : ab_F} {v : Value} (h : ab_vF sets t v) (he : ab_env E σ) : ∃ τ, ab_env (ab_of E t).1 (σ ++ τ) ∧ ab_sl sets (σ ++ τ) (ab_of E t).2 v := by
  unfold ab_of
  rcases h with ⟨h1, x, rfl, h2, h3⟩ | ⟨h1, x, rfl, h2, h3⟩ | ⟨h1, p, rfl, h2⟩ | ⟨h1, p, rfl, h2, h3⟩
  · rw [h1]
    exact ⟨_, ab_new_i he h2 h3⟩
  · rw [h1]
    exact ⟨_, ab_new_l he h2 h3⟩
  · rw [h1]
    refine ⟨[], by rw [List.append_nil]; exact he, Or.inr (Or.inr (Or.inl ⟨rfl, ?_⟩))⟩
    show Value.ref p = Value.ref t.2.1.toNat
    rw [← h2]
    rfl
  · rw [h1]
    exact ⟨[], by rw [List.append_nil]; exact he, Or.inr (Or.inr (Or.inr ⟨rfl, p, rfl, h2⟩))⟩
theorem ab_stk_len : ∀ {S : List ab_S} {st : List Value}, ab_stk sets σ S st → S.length = st.length
  | [], [], _ => rfl
  | _ :: _, _ :: _, h => congrArg (· + 1) (ab_stk_len h.2)
  | [], _ :: _, h => h.elim
  | _ :: _, [], h => h.elim
theorem ab_stk_app : ∀ {A B : List ab_S} {a b : List Value}, ab_stk sets σ A a → ab_stk sets σ B b → ab_stk sets σ (A ++ B) (a ++ b)
  | [], _, [], _, _, h => h
  | _ :: _, _, _ :: _, _, h1, h2 => ⟨h1.1, ab_stk_app h1.2 h2⟩
  | [], _, _ :: _, _, h, _ => h.elim
  | _ :: _, _, [], _, h, _ => h.elim
theorem ab_stk_rev : ∀ {A : List ab_S} {a : List Value}, ab_stk sets σ A a → ab_stk sets σ A.reverse a.reverse
  | [], [], _ => trivial
  | _ :: _, _ :: _, h => by
    rw [List.reverse_cons, List.reverse_cons]
    exact ab_stk_app (ab_stk_rev h.2) ⟨h.1, trivial⟩
  | [], _ :: _, h => h.elim
  | _ :: _, [], h => h.elim
theorem ab_stk_take : ∀ (n : Nat) {A : List ab_S} {a : List Value}, ab_stk sets σ A a → ab_stk sets σ (A.take n) (a.take n)
  | 0, _, _, _ => by rw [List.take_zero, List.take_zero]; trivial
  | _ + 1, [], [], _ => trivial
  | n + 1, _ :: _, _ :: _, h => ⟨h.1, ab_stk_take n h.2⟩
  | _ + 1, [], _ :: _, h => h.elim
  | _ + 1, _ :: _, [], h => h.elim
theorem ab_stk_drop : ∀ (n : Nat) {A : List ab_S} {a : List Value}, ab_stk sets σ A a → ab_stk sets σ (A.drop n) (a.drop n)
  | 0, _, _, h => h
  | _ + 1, [], [], _ => trivial
  | n + 1, _ :: _, _ :: _, h => ab_stk_drop n h.2
  | _ + 1, [], _ :: _, h => h.elim
  | _ + 1, _ :: _, [], h => h.elim
theorem ab_isL_vals : ∀ {ss : List ab_S} {ts : List ab_F} {vs : List Value}, ab_isL sets E ss ts = true → ab_stk sets σ ss vs → ab_env E σ → ab_vals sets vs ts
  | [], [], [], _, _, _ => trivial
  | _ :: _, _ :: _, _ :: _, h, hs, he => ⟨ab_is_vF (am_and h).1 hs.1 he, ab_isL_vals (am_and h).2 hs.2 he⟩
  | [], _ :: _, _, h, _, _ => by cases h
  | _ :: _, [], _, h, _, _ => by cases h
  | [], [], _ :: _, _, h, _ => h.elim
  | _ :: _, _ :: _, [], _, h, _ => h.elim
theorem ab_ref_in : ∀ {ss : List ab_S} {ts : List ab_F} {vs : List Value} {E : ab_E}, ab_vals sets vs ts → ab_stk sets σ ss vs → ab_env E σ → ∃ E1 ∈ ab_ref E ss ts, ab_env E1 σ
  | [], [], [], E, _, _, he => ⟨E, List.mem_singleton.mpr rfl, he⟩
  | s :: ss, t :: ts, v :: vs, E, hv, hs, he => by
    have h1 : ∃ E1 ∈ (bif Nat.beq t.1 0 || Nat.beq t.1 1 then ab_up E s t.2.1 t.2.2 else [E]), ab_env E1 σ := by
      cases h0 : (Nat.beq t.1 0 || Nat.beq t.1 1) with
      | false => exact ⟨E, List.mem_singleton.mpr rfl, he⟩
      | true =>
        simp only [cond_true]
        rcases hv.1 with ⟨g1, x, rfl, g2, g3⟩ | ⟨g1, x, rfl, g2, g3⟩ | ⟨g1, p, rfl, g2⟩ | ⟨g1, p, rfl, g2, g3⟩
        · rcases hs.1 with ⟨q1, q2, y, q3, q4⟩ | ⟨q1, q2, y, q3, q4⟩ | ⟨q1, q2⟩ | ⟨q1, p, q2, q3⟩
          · cases q3
            exact ab_up_in he q2 (by omega) (by omega)
          · cases q3
          · cases q2
          · cases q2
        · rcases hs.1 with ⟨q1, q2, y, q3, q4⟩ | ⟨q1, q2, y, q3, q4⟩ | ⟨q1, q2⟩ | ⟨q1, p, q2, q3⟩
          · cases q3
          · cases q3
            exact ab_up_in he q2 (by omega) (by omega)
          · cases q2
          · cases q2
        · rw [g1] at h0; cases h0
        · rw [g1] at h0; cases h0
    obtain ⟨E1, m1, e1⟩ := h1
    obtain ⟨E2, m2, e2⟩ := ab_ref_in hv.2 hs.2 e1
    exact ⟨E2, List.mem_flatMap.mpr ⟨E1, m1, m2⟩, e2⟩
  | [], _ :: _, [], _, h, _, _ => h.elim
  | [], [], _ :: _, _, h, _, _ => h.elim
  | _ :: _, [], [], _, _, h, _ => h.elim
  | _ :: _, [], _ :: _, _, h, _, _ => h.elim
  | _ :: _, _ :: _, [], _, h, _, _ => h.elim
  | [], _ :: _, _ :: _, _, _, h, _ => h.elim
theorem ab_cats_of : ∀ {S : List ab_S} {st : List Value}, ab_stk sets σ S st → (st.map fun v => v.category).sum = ab_cats S
  | [], [], _ => rfl
  | s :: S, v :: st, h => by
    have h1 := ab_sl_c h.1
    have h2 := ab_cats_of h.2
    unfold ab_cats at h2 ⊢
    rw [List.map_cons, List.map_cons, List.sum_cons, List.sum_cons, h1, h2]
  | [], _ :: _, h => h.elim
  | _ :: _, [], h => h.elim
theorem ab_pick_mem {as : List ab_S} : ∀ {ms : List ab_M} {m : ab_M}, ab_pick sets E as ms = some m → m ∈ ms ∧ ab_isL sets E as m.1 = true
  | [], _, h => by cases h
  | m0 :: ms, m, h => by
    unfold ab_pick at h
    cases hc : ab_isL sets E as m0.1 with
    | true =>
      rw [hc] at h
      cases h
      exact ⟨List.mem_cons_self, hc⟩
    | false =>
      rw [hc] at h
      obtain ⟨g1, g2⟩ := ab_pick_mem (ms := ms) h
      exact ⟨List.mem_cons_of_mem _ g1, g2⟩
theorem ab_J.trans {w1 : am_W} (h : ab_J T sets wr w0 w) (h1 : ab_J T sets wr w w1) : ab_J T sets wr w0 w1 := ⟨h1.1, h.2.trans h1.2⟩
end ABW
