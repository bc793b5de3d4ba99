/-! ===== comparisons, stacks, locals ===== -/
section ABB
variable {sets : List (List Nat)} {E : ab_E} {σ : List Int} {a b : ab_S}
theorem ab_2 (h : ab_env E σ) (ha : a.2.1 < σ.length) (hb : b.2.1 < σ.length) {l1 h1 l2 h2 : Int} (q1 : l1 ≤ σ.getD a.2.1 0 + a.2.2) (q2 : σ.getD a.2.1 0 + a.2.2 ≤ h1) (q3 : l2 ≤ σ.getD b.2.1 0 + b.2.2) (q4 : σ.getD b.2.1 0 + b.2.2 ≤ h2) : ∃ E1 ∈ (ab_up E a l1 h1).flatMap (fun E1 => ab_up E1 b l2 h2), ab_env E1 σ := by
  obtain ⟨E1, m1, e1⟩ := ab_up_in h ha q1 q2
  obtain ⟨E2, m2, e2⟩ := ab_up_in e1 hb q3 q4
  exact ⟨E2, List.mem_flatMap.mpr ⟨E1, m1, m2⟩, e2⟩
theorem ab_le_in (h : ab_env E σ) (ha : a.2.1 < σ.length) (hb : b.2.1 < σ.length) (q : σ.getD a.2.1 0 + a.2.2 ≤ σ.getD b.2.1 0 + b.2.2) : ∃ E1 ∈ ab_le E a b, ab_env E1 σ := by
  have i1 := ab_iv_of h ha rfl
  have i2 := ab_iv_of h hb rfl
  exact ab_2 h ha hb (by omega) (by omega) (by omega) (by omega)
theorem ab_lt_in (h : ab_env E σ) (ha : a.2.1 < σ.length) (hb : b.2.1 < σ.length) (q : σ.getD a.2.1 0 + a.2.2 < σ.getD b.2.1 0 + b.2.2) : ∃ E1 ∈ ab_lt E a b, ab_env E1 σ := by
  have i1 := ab_iv_of h ha rfl
  have i2 := ab_iv_of h hb rfl
  exact ab_2 h ha hb (by omega) (by omega) (by omega) (by omega)
theorem ab_eq_in (h : ab_env E σ) (ha : a.2.1 < σ.length) (hb : b.2.1 < σ.length) (q : σ.getD a.2.1 0 + a.2.2 = σ.getD b.2.1 0 + b.2.2) : ∃ E1 ∈ ab_eq E a b, ab_env E1 σ := by
  have i1 := ab_iv_of h ha rfl
  have i2 := ab_iv_of h hb rfl
  exact ab_2 h ha hb (by omega) (by omega) (by omega) (by omega)
theorem ab_ne_in (h : ab_env E σ) (ha : a.2.1 < σ.length) (hb : b.2.1 < σ.length) (q : σ.getD a.2.1 0 + a.2.2 ≠ σ.getD b.2.1 0 + b.2.2) : ∃ E1 ∈ ab_ne E a b, ab_env E1 σ := by
  rcases Int.lt_or_gt_of_ne q with g | g
  · obtain ⟨E1, m, e⟩ := ab_lt_in h ha hb g
    exact ⟨E1, List.mem_append_left _ m, e⟩
  · obtain ⟨E1, m, e⟩ := ab_lt_in h hb ha g
    exact ⟨E1, List.mem_append_right _ m, e⟩
noncomputable def ab_P (q : ClassFile.Cond) (u v : Int) : Prop := match q with
  | .eq => u = v
  | .ne => ¬ u = v
  | .lt => u < v
  | .ge => v ≤ u
  | .gt => v < u
  | .le => u ≤ v
theorem ab_cond_t (q : ClassFile.Cond) (h : ab_env E σ) (ha : a.2.1 < σ.length) (hb : b.2.1 < σ.length) (g : ab_P q (σ.getD a.2.1 0 + a.2.2) (σ.getD b.2.1 0 + b.2.2)) : ∃ E1 ∈ ab_cond q true E a b, ab_env E1 σ := by
  cases q
  case eq => exact ab_eq_in h ha hb g
  case ne => exact ab_ne_in h ha hb g
  case lt => exact ab_lt_in h ha hb g
  case ge => exact ab_le_in h hb ha g
  case gt => exact ab_lt_in h hb ha g
  case le => exact ab_le_in h ha hb g
theorem ab_cond_f (q : ClassFile.Cond) (h : ab_env E σ) (ha : a.2.1 < σ.length) (hb : b.2.1 < σ.length) (g : ¬ ab_P q (σ.getD a.2.1 0 + a.2.2) (σ.getD b.2.1 0 + b.2.2)) : ∃ E1 ∈ ab_cond q false E a b, ab_env E1 σ := by
  cases q
  case eq => exact ab_ne_in h ha hb g
  case ne => exact ab_eq_in h ha hb (Decidable.not_not.mp g)
  case lt => exact ab_le_in h hb ha (Int.not_lt.mp g)
  case ge => exact ab_lt_in h ha hb (Int.not_le.mp g)
  case gt => exact ab_le_in h ha hb (Int.not_lt.mp g)
  case le => exact ab_lt_in h hb ha (Int.not_le.mp g)
theorem ab_cc (q : ClassFile.Cond) (x y : Int32) : am_cc q x y = true ↔ ab_P q x.toInt y.toInt := by
  cases q
  case eq => exact decide_eq_true_iff.trans Int32.toInt_inj.symm
  case ne => exact decide_eq_true_iff.trans (not_congr Int32.toInt_inj.symm)
  case lt => exact decide_eq_true_iff.trans Int32.lt_iff_toInt_lt
  case ge => exact decide_eq_true_iff.trans Int32.le_iff_toInt_le
  case gt => exact decide_eq_true_iff.trans Int32.lt_iff_toInt_lt
  case le => exact decide_eq_true_iff.trans Int32.le_iff_toInt_le
theorem ab_lc (q : ClassFile.Cond) (x y : Int64) : am_cc q (lg_cmp x y) 0 = true ↔ ab_P q x.toInt y.toInt := by
  rw [ab_cc]
  have z0 : (0 : Int32).toInt = 0 := rfl
  have hlt : y < x ↔ y.toInt < x.toInt := Int64.lt_iff_toInt_lt
  have heq : x = y ↔ x.toInt = y.toInt := Int64.toInt_inj.symm
  have hc : ((lg_cmp x y).toInt = 1 ∧ y.toInt < x.toInt) ∨ ((lg_cmp x y).toInt = 0 ∧ x.toInt = y.toInt) ∨ ((lg_cmp x y).toInt = -1 ∧ x.toInt < y.toInt) := by
    unfold lg_cmp
    by_cases h1 : x > y
    · rw [if_pos h1]
      exact Or.inl ⟨rfl, hlt.mp h1⟩
    · rw [if_neg h1]
      by_cases h2 : x = y
      · rw [if_pos h2]
        exact Or.inr (Or.inl ⟨rfl, heq.mp h2⟩)
      · rw [if_neg h2]
        refine Or.inr (Or.inr ⟨by decide, ?_⟩)
        have n1 : ¬ y.toInt < x.toInt := fun z => h1 (hlt.mpr z)
        have n2 : ¬ x.toInt = y.toInt := fun z => h2 (heq.mpr z)
        omega
  rw [z0]
  cases q <;> simp only [ab_P] <;> omega
theorem ab_stk_cons {s : ab_S} {S : List ab_S} {st : List Value} (h : ab_stk sets σ (s :: S) st) : ∃ v r, st = v :: r ∧ ab_sl sets σ s v ∧ ab_stk sets σ S r := by
  cases st with
  | nil => exact h.elim
  | cons v r => exact ⟨v, r, rfl, h.1, h.2⟩
theorem ab_sl_i {s : ab_S} {v : Value} (h : ab_sl sets σ s v) (hk : Nat.beq s.1 0 = true) : ∃ x, v = .int x ∧ s.2.1 < σ.length ∧ x.toInt = σ.getD s.2.1 0 + s.2.2 := by
  have e := Nat.eq_of_beq_eq_true hk
  rcases h with ⟨h1, h2, x, h3, h4⟩ | ⟨h1, -⟩ | ⟨h1, -⟩ | ⟨h1, -⟩
  · exact ⟨x, h3, h2, h4⟩
  all_goals omega
theorem ab_sl_l {s : ab_S} {v : Value} (h : ab_sl sets σ s v) (hk : Nat.beq s.1 1 = true) : ∃ x, v = .long x ∧ s.2.1 < σ.length ∧ x.toInt = σ.getD s.2.1 0 + s.2.2 := by
  have e := Nat.eq_of_beq_eq_true hk
  rcases h with ⟨h1, -⟩ | ⟨h1, h2, x, h3, h4⟩ | ⟨h1, -⟩ | ⟨h1, -⟩
  · omega
  · exact ⟨x, h3, h2, h4⟩
  all_goals omega
theorem ab_sl_r {s : ab_S} {v : Value} (h : ab_sl sets σ s v) (hk : Nat.beq s.1 2 = true) : v = .ref s.2.1 := by
  have e := Nat.eq_of_beq_eq_true hk
  rcases h with ⟨h1, -⟩ | ⟨h1, -⟩ | ⟨h1, h2⟩ | ⟨h1, -⟩
  · omega
  · omega
  · exact h2
  · omega
theorem ab_sl_q {s : ab_S} {v : Value} (h : ab_sl sets σ s v) (hk : Nat.beq s.1 3 = true) : ∃ p, v = .ref p ∧ p ∈ sets.getD s.2.1 [] := by
  have e := Nat.eq_of_beq_eq_true hk
  rcases h with ⟨h1, -⟩ | ⟨h1, -⟩ | ⟨h1, -⟩ | ⟨h1, h2⟩
  · omega
  · omega
  · omega
  · exact h2
theorem ab_sl_c {s : ab_S} {v : Value} (h : ab_sl sets σ s v) : v.category = (bif Nat.beq s.1 1 then 2 else 1) := by
  rcases h with ⟨h1, h2, x, h3, h4⟩ | ⟨h1, h2, x, h3, h4⟩ | ⟨h1, h2⟩ | ⟨h1, p, h2, h3⟩
  · rw [h1, h3]; rfl
  · rw [h1, h3]; rfl
  · rw [h1, h2]; rfl
  · rw [h1, h2]; rfl
theorem ab_const {c : Int} (h : ab_env E σ) {x : Int32} (hx : x.toInt = c) : ab_sl sets σ (0, 0, c) (.int x) := Or.inl ⟨rfl, h.2.1, x, rfl, by show x.toInt = σ.getD 0 0 + c; rw [h.2.2.1, hx]; omega⟩
theorem ab_constL {c : Int} (h : ab_env E σ) {x : Int64} (hx : x.toInt = c) : ab_sl sets σ (1, 0, c) (.long x) := Or.inr (Or.inl ⟨rfl, h.2.1, x, rfl, by show x.toInt = σ.getD 0 0 + c; rw [h.2.2.1, hx]; omega⟩)
theorem ab_st1_loc {L : List (Option ab_S)} {ls : am_L} {i : Nat} {s : ab_S} {v : Value} (h : ab_loc sets σ L ls) (hi : i < L.length) (hs : ab_sl sets σ s v) : ab_loc sets σ (ab_st1 L i s) (am_st1 ls i v) := by
  have hclr : ∀ (j : Nat) (s' : ab_S), (ab_clr L i)[j]? = some (some s') → ∃ u, (am_clr ls i)[j]? = some (some u) ∧ ab_sl sets σ s' u := by
    intro j s' hj
    unfold ab_clr at hj
    cases i with
    | zero => exact h.2 j s' hj
    | succ t =>
      simp only at hj
      have key : ∀ (hL : L[j]? = some (some s')), (j = t → Nat.beq s'.1 1 = false) → ∃ u, (am_clr ls (t + 1))[j]? = some (some u) ∧ ab_sl sets σ s' u := by
        intro hL hjt
        obtain ⟨u, h1, h2⟩ := h.2 j s' hL
        refine ⟨u, ?_, h2⟩
        unfold am_clr
        simp only
        by_cases q : j = t
        · subst q
          rw [h1]
          simp only
          have hc := ab_sl_c h2
          rw [hjt rfl] at hc
          rw [if_neg (by rw [hc]; decide)]
          exact h1
        · cases hlt : ls[t]? with
          | none => exact h1
          | some o =>
            cases o with
            | none => exact h1
            | some u' =>
              simp only
              split
              · rw [List.getElem?_set_ne (fun z => q z.symm)]; exact h1
              · exact h1
      cases hLt : L[t]? with
      | none =>
        rw [hLt] at hj
        exact key hj (fun q => by subst q; rw [hLt] at hj; cases hj)
      | some o =>
        cases o with
        | none =>
          rw [hLt] at hj
          exact key hj (fun q => by subst q; rw [hLt] at hj; cases hj)
        | some x =>
          rw [hLt] at hj
          simp only at hj
          cases hb : Nat.beq x.1 1 with
          | true =>
            rw [hb] at hj
            simp only [cond_true] at hj
            by_cases q : t = j
            · subst q
              rw [List.getElem?_set_self (List.getElem?_eq_some_iff.mp hLt).1] at hj
              cases hj
            · rw [List.getElem?_set_ne q] at hj
              exact key hj (fun z => absurd z.symm q)
          | false =>
            rw [hb] at hj
            simp only [cond_false] at hj
            refine key hj (fun q => ?_)
            subst q
            rw [hLt] at hj
            cases hj
            exact hb
  have hlen : (ab_clr L i).length = L.length := by
    unfold ab_clr
    cases i with
    | zero => rfl
    | succ t =>
      simp only
      split
      · rename_i x hx
        cases Nat.beq x.1 1
        · rfl
        · exact List.length_set
      · rfl
  constructor
  · rw [am_st1_len, ab_st1, List.length_set, hlen]
    exact h.1
  · intro j s' hj
    rw [ab_st1, List.getElem?_set] at hj
    rw [am_st1, List.getElem?_set]
    by_cases q : i = j
    · subst q
      rw [if_pos rfl, if_pos (by rw [hlen]; exact hi)] at hj
      cases hj
      rw [if_pos rfl, if_pos (by rw [am_clr_len, ← h.1]; exact hi)]
      exact ⟨v, rfl, hs⟩
    · rw [if_neg q] at hj ⊢
      exact hclr j s' hj
theorem ab_st2_loc {L : List (Option ab_S)} {ls : am_L} {i : Nat} {s : ab_S} {v : Value} (h : ab_loc sets σ L ls) (hi : i < L.length) (hs : ab_sl sets σ s v) : ab_loc sets σ (ab_st2 L i s) (am_st2 ls i v) := by
  obtain ⟨h1, h2⟩ := ab_st1_loc h hi hs
  constructor
  · rw [ab_st2, List.length_set, h1, am_st2_len, am_st1_len]
  · intro j s' hj
    rw [ab_st2, List.getElem?_set] at hj
    show ∃ v', ((am_st1 ls i v).set (i + 1) none)[j]? = some (some v') ∧ _
    rw [List.getElem?_set]
    by_cases q : i + 1 = j
    · rw [if_pos q] at hj
      split at hj <;> cases hj
    · rw [if_neg q] at hj ⊢
      exact h2 j s' hj
end ABB
