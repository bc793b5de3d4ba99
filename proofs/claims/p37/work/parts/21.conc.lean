/-! ===== what the checker's words mean ===== -/
noncomputable def ab_env (E : ab_E) (σ : List Int) : Prop := σ.length = E.length ∧ 1 ≤ σ.length ∧ σ.getD 0 0 = 0 ∧ ∀ i, i < E.length → (E.getD i (0, 0)).1 ≤ σ.getD i 0 ∧ σ.getD i 0 ≤ (E.getD i (0, 0)).2
noncomputable def ab_sl (sets : List (List Nat)) (σ : List Int) (s : ab_S) (v : Value) : Prop :=
  (s.1 = 0 ∧ s.2.1 < σ.length ∧ ∃ x, v = .int x ∧ x.toInt = σ.getD s.2.1 0 + s.2.2) ∨ (s.1 = 1 ∧ s.2.1 < σ.length ∧ ∃ x, v = .long x ∧ x.toInt = σ.getD s.2.1 0 + s.2.2) ∨ (s.1 = 2 ∧ v = .ref s.2.1) ∨ (s.1 = 3 ∧ ∃ p, v = .ref p ∧ p ∈ sets.getD s.2.1 [])
noncomputable def ab_stk (sets : List (List Nat)) (σ : List Int) : List ab_S → List Value → Prop
  | [], [] => True
  | s :: S, v :: st => ab_sl sets σ s v ∧ ab_stk sets σ S st
  | _, _ => False
noncomputable def ab_loc (sets : List (List Nat)) (σ : List Int) (L : List (Option ab_S)) (ls : am_L) : Prop := L.length = ls.length ∧ ∀ (i : Nat) (s : ab_S), L[i]? = some (some s) → ∃ v, ls[i]? = some (some v) ∧ ab_sl sets σ s v
noncomputable def ab_vF (sets : List (List Nat)) (t : ab_F) (v : Value) : Prop :=
  (t.1 = 0 ∧ ∃ x, v = .int x ∧ t.2.1 ≤ x.toInt ∧ x.toInt ≤ t.2.2) ∨ (t.1 = 1 ∧ ∃ x, v = .long x ∧ t.2.1 ≤ x.toInt ∧ x.toInt ≤ t.2.2) ∨ (t.1 = 2 ∧ ∃ p : Nat, v = .ref p ∧ (p : Int) = t.2.1) ∨ (t.1 = 3 ∧ ∃ p, v = .ref p ∧ p ∈ sets.getD t.2.1.toNat [] ∧ 0 ≤ t.2.1)
noncomputable def ab_vC (sets : List (List Nat)) (t : ab_C) (q : am_C) : Prop := match t with
  | .inl (kd, n, lo, hi) => (kd = 0 ∧ ∃ l, q = .inl (.inl (0, l)) ∧ l.length = n ∧ ∀ x ∈ l, lo ≤ x.toInt ∧ x.toInt ≤ hi) ∨ (kd = 1 ∧ lo ≤ 0 ∧ 1 ≤ hi ∧ ∃ l, q = .inl (.inl (1, l)) ∧ l.length = n ∧ ∀ x ∈ l, lo ≤ x.toInt ∧ x.toInt ≤ hi) ∨ (kd = 2 ∧ ∃ l, q = .inl (.inr (.inl l)) ∧ l.length = n ∧ ∀ x ∈ l, lo ≤ x.toInt ∧ x.toInt ≤ hi) ∨ kd = 9
  | .inr (ci, ts) => ∃ fs, q = .inr (ci, fs) ∧ fs.length = ts.length ∧ ∀ (k : Nat) (t : ab_F), ts[k]? = some t → ∃ v, fs[k]? = some v ∧ ab_vF sets t v
noncomputable def ab_inv (T : List ab_C) (sets : List (List Nat)) (w : am_W) : Prop := w.length = T.length ∧ ∀ (a : Nat) (t : ab_C), T[a]? = some t → ∃ q, w[a]? = some q ∧ ab_vC sets t q
/-- what isn't to be written is as it was -/
noncomputable def ab_fr (wr : ab_wT) (w0 w : am_W) : Prop := (∀ a : Nat, a ∉ wr.1 → (∀ k : Nat, (a, k) ∉ wr.2) → w[a]? = w0[a]?) ∧ ∀ (a c : Nat) (fs0 : List Value), a ∉ wr.1 → w0[a]? = some (.inr (c, fs0)) → ∃ fs : List Value, w[a]? = some (.inr (c, fs)) ∧ ∀ k : Nat, (a, k) ∉ wr.2 → fs[k]? = fs0[k]?
theorem ab_fr.rf {wr : ab_wT} {w : am_W} : ab_fr wr w w := ⟨fun _ _ _ => rfl, fun _ _ fs0 _ h => ⟨fs0, h, fun _ _ => rfl⟩⟩
theorem ab_fr.trans {wr : ab_wT} {w0 w w1 : am_W} (h : ab_fr wr w0 w) (h1 : ab_fr wr w w1) : ab_fr wr w0 w1 := ⟨fun a ha hk => (h1.1 a ha hk).trans (h.1 a ha hk), fun a c fs0 ha h0 => by
  obtain ⟨fs, g1, g2⟩ := h.2 a c fs0 ha h0
  obtain ⟨fs', g3, g4⟩ := h1.2 a c fs ha g1
  exact ⟨fs', g3, fun k hk => (g4 k hk).trans (g2 k hk)⟩⟩
noncomputable def ab_J (T : List ab_C) (sets : List (List Nat)) (wr : ab_wT) (w0 w : am_W) : Prop := ab_inv T sets w ∧ ab_fr wr w0 w
noncomputable def ab_γ (sets : List (List Nat)) (G : List Value) (σ : List Int) (t : ab_T) (ls : am_L) (st : List Value) : Prop := ab_env t.1 σ ∧ ab_loc sets σ t.2.1 ls ∧ ab_stk sets σ t.2.2.1 st ∧ ab_stk sets σ t.2.2.2 G
noncomputable def ab_vals (sets : List (List Nat)) : List Value → List ab_F → Prop
  | [], [] => True
  | v :: vs, t :: ts => ab_vF sets t v ∧ ab_vals sets vs ts
  | _, _ => False
noncomputable def ab_res (sets : List (List Nat)) (r : Option Value) (t : Option ab_F) : Prop := match r, t with
  | none, none => True
  | some v, some t => ab_vF sets t v
  | _, _ => False
/-- a method keeps what is told of it, d calls deep -/
noncomputable def ab_ok (T : List ab_C) (sets : List (List Nat)) (wr : ab_wT) (d z : Nat) (m : ab_M) : Prop := ∀ w as, ab_inv T sets w → ab_vals sets as m.1 → (am_args as).length ≤ am_ml z ∧ aw none d z (fun r w' => ab_J T sets wr w w' ∧ ∃ o ∈ m.2, ab_res sets r o.1 ∧ ab_vals sets as o.2) (0, am_entry z as, []) w
/-! the ids' values may grow -/
theorem ab_app {σ τ : List Int} {i : Nat} (h : i < σ.length) : (σ ++ τ).getD i 0 = σ.getD i 0 := by
  rw [List.getD_eq_getElem?_getD, List.getD_eq_getElem?_getD, List.getElem?_append_left h]
theorem ab_sl.app {sets : List (List Nat)} {σ : List Int} (τ : List Int) {s : ab_S} {v : Value} (h : ab_sl sets σ s v) : ab_sl sets (σ ++ τ) s v := by
  rcases h with ⟨h1, h2, x, h3, h4⟩ | ⟨h1, h2, x, h3, h4⟩ | h | h
  · exact Or.inl ⟨h1, by rw [List.length_append]; omega, x, h3, by rw [ab_app h2]; exact h4⟩
  · exact Or.inr (Or.inl ⟨h1, by rw [List.length_append]; omega, x, h3, by rw [ab_app h2]; exact h4⟩)
  · exact Or.inr (Or.inr (Or.inl h))
  · exact Or.inr (Or.inr (Or.inr h))
theorem ab_stk.app {sets : List (List Nat)} {σ : List Int} (τ : List Int) : ∀ {S : List ab_S} {st : List Value}, ab_stk sets σ S st → ab_stk sets (σ ++ τ) S st
  | [], [], _ => trivial
  | _ :: _, _ :: _, h => ⟨h.1.app τ, ab_stk.app τ h.2⟩
  | [], _ :: _, h => h.elim
  | _ :: _, [], h => h.elim
theorem ab_loc.app {sets : List (List Nat)} {σ : List Int} (τ : List Int) {L : List (Option ab_S)} {ls : am_L} (h : ab_loc sets σ L ls) : ab_loc sets (σ ++ τ) L ls := ⟨h.1, fun i s hi => by
  obtain ⟨v, h1, h2⟩ := h.2 i s hi
  exact ⟨v, h1, h2.app τ⟩⟩
theorem ab_env.new {E : ab_E} {σ : List Int} {lo hi v : Int} (h : ab_env E σ) (h1 : lo ≤ v) (h2 : v ≤ hi) : ab_env (E ++ [(lo, hi)]) (σ ++ [v]) := by
  obtain ⟨e1, e2, e3, e4⟩ := h
  refine ⟨by rw [List.length_append, List.length_append, e1]; rfl, by rw [List.length_append]; omega, by rw [ab_app (by omega)]; exact e3, fun i hi => ?_⟩
  rw [List.length_append] at hi
  by_cases q : i < E.length
  · rw [ab_app (by omega), List.getD_eq_getElem?_getD (l := E ++ _), List.getElem?_append_left q, ← List.getD_eq_getElem?_getD]
    exact e4 i q
  · have : i = E.length := by simp at hi; omega
    subst this
    rw [List.getD_eq_getElem?_getD, List.getD_eq_getElem?_getD, List.getElem?_append_right (Nat.le_refl _), List.getElem?_append_right (by omega), e1, Nat.sub_self]
    exact ⟨h1, h2⟩
theorem ab_iv_of {E : ab_E} {σ : List Int} (h : ab_env E σ) {s : ab_S} (hs : s.2.1 < σ.length) {x : Int} (hx : x = σ.getD s.2.1 0 + s.2.2) : (ab_iv E s).1 ≤ x ∧ x ≤ (ab_iv E s).2 := by
  have := h.2.2.2 s.2.1 (by rw [← h.1]; exact hs)
  unfold ab_iv
  simp only
  omega
theorem ab_last {σ : List Int} {v : Int} : (σ ++ [v]).getD σ.length 0 = v := by
  rw [List.getD_eq_getElem?_getD, List.getElem?_append_right (Nat.le_refl _), Nat.sub_self]
  rfl
/-- a fresh id -/
theorem ab_new_i {sets : List (List Nat)} {E : ab_E} {σ : List Int} (h : ab_env E σ) {lo hi : Int} {x : Int32} (h1 : lo ≤ x.toInt) (h2 : x.toInt ≤ hi) : ab_env (ab_new E 0 lo hi).1 (σ ++ [x.toInt]) ∧ ab_sl sets (σ ++ [x.toInt]) (ab_new E 0 lo hi).2 (.int x) := by
  refine ⟨h.new h1 h2, Or.inl ⟨rfl, by show E.length < _; rw [List.length_append, h.1]; simp, x, rfl, ?_⟩⟩
  show x.toInt = (σ ++ [x.toInt]).getD E.length 0 + 0
  rw [← h.1, ab_last]
  omega
theorem ab_new_l {sets : List (List Nat)} {E : ab_E} {σ : List Int} (h : ab_env E σ) {lo hi : Int} {x : Int64} (h1 : lo ≤ x.toInt) (h2 : x.toInt ≤ hi) : ab_env (ab_new E 1 lo hi).1 (σ ++ [x.toInt]) ∧ ab_sl sets (σ ++ [x.toInt]) (ab_new E 1 lo hi).2 (.long x) := by
  refine ⟨h.new h1 h2, Or.inr (Or.inl ⟨rfl, by show E.length < _; rw [List.length_append, h.1]; simp, x, rfl, ?_⟩)⟩
  show x.toInt = (σ ++ [x.toInt]).getD E.length 0 + 0
  rw [← h.1, ab_last]
  omega
theorem ab_any32 (x : Int32) : ab_lo32 ≤ x.toInt ∧ x.toInt ≤ ab_hi32 := by
  have h1 := x.le_toInt
  have h2 := x.toInt_lt
  unfold ab_lo32 ab_hi32
  omega
theorem ab_any64 (x : Int64) : ab_lo64 ≤ x.toInt ∧ x.toInt ≤ ab_hi64 := by
  have h1 := x.le_toInt
  have h2 := x.toInt_lt
  unfold ab_lo64 ab_hi64
  omega
theorem ab_fits {lo hi : Int} (h : ab_f32 lo hi = true) : -2147483648 ≤ lo ∧ hi ≤ 2147483647 := by
  obtain ⟨h1, h2⟩ := am_and h
  exact ⟨of_decide_eq_true h1, of_decide_eq_true h2⟩
theorem ab_bmod {x : Int} (h1 : -2147483648 ≤ x) (h2 : x ≤ 2147483647) : x.bmod (2 ^ 32) = x := Int.bmod_eq_of_le (by omega) (by omega)
theorem ab_r32_i {sets : List (List Nat)} {E : ab_E} {σ : List Int} (h : ab_env E σ) {lo hi v : Int} {x : Int32} (h0 : x.toInt = v.bmod (2 ^ 32)) (h1 : lo ≤ v) (h2 : v ≤ hi) : ab_env (ab_r32 E lo hi).1 (σ ++ [x.toInt]) ∧ ab_sl sets (σ ++ [x.toInt]) (ab_r32 E lo hi).2 (.int x) := by
  unfold ab_r32
  cases hf : ab_f32 lo hi with
  | false => exact ab_new_i h (ab_any32 x).1 (ab_any32 x).2
  | true =>
    have h3 := ab_fits hf
    rw [ab_bmod (by omega) (by omega)] at h0
    exact ab_new_i h (by omega) (by omega)
theorem ab_off_i {sets : List (List Nat)} {E : ab_E} {σ : List Int} (h : ab_env E σ) {s : ab_S} (hs : s.2.1 < σ.length) {c : Int} {x : Int32} (h0 : x.toInt = (σ.getD s.2.1 0 + s.2.2 + c).bmod (2 ^ 32)) : ∃ τ, ab_env (ab_off E s c).1 (σ ++ τ) ∧ ab_sl sets (σ ++ τ) (ab_off E s c).2 (.int x) := by
  unfold ab_off
  have hiv := ab_iv_of h hs rfl
  cases hf : ab_f32 ((ab_iv E s).1 + c) ((ab_iv E s).2 + c) with
  | false => exact ⟨_, ab_new_i h (ab_any32 x).1 (ab_any32 x).2⟩
  | true =>
    have h3 := ab_fits hf
    rw [ab_bmod (by omega) (by omega)] at h0
    have h4 : x.toInt = σ.getD s.2.1 0 + (s.2.2 + c) := by omega
    exact ⟨[], by rw [List.append_nil]; exact h, by rw [List.append_nil]; exact Or.inl ⟨rfl, hs, x, rfl, h4⟩⟩
theorem ab_minmax (a b : Int) : ab_min a b ≤ a ∧ ab_min a b ≤ b ∧ (ab_min a b = a ∨ ab_min a b = b) ∧ a ≤ ab_max a b ∧ b ≤ ab_max a b ∧ (ab_max a b = a ∨ ab_max a b = b) := by
  unfold ab_min ab_max
  by_cases h : a ≤ b
  · simp only [h, decide_true, cond_true]
    refine ⟨Int.le_refl _, trivial, Or.inl trivial, trivial, Int.le_refl _, Or.inr trivial⟩
  · simp only [h, decide_false, cond_false]
    refine ⟨by omega, Int.le_refl _, Or.inr trivial, Int.le_refl _, by omega, Or.inl trivial⟩
