/-! ===== the cells of my machine as cells of the Statement's machine: place i lies at the address ρ i ===== -/
noncomputable def am_v (ρ : Nat → Nat) (v : Value) : Value := match v with
  | .ref i => .ref (ρ i)
  | v => v
noncomputable def am_ce (κ : Nat → ClassId) (ρ : Nat → Nat) (q : am_C) : va_E := match q with
  | .inl (.inl (t, l)) => .inl (κ t, l.length, .inl (fun k => l.getD k 0))
  | .inl (.inr (.inl l)) => .inl (κ 2, l.length, .inr (.inl (fun k => l.getD k 0)))
  | .inl (.inr (.inr l)) => .inl (κ 3, l.length, .inr (.inr (.inr (.inr (fun k => (l.getD k none).map ρ)))))
  | .inr (ci, fs) => .inr (ci, fs.map (am_v ρ))
noncomputable def am_cw (κ : Nat → ClassId) (ρ : Nat → Nat) (w : am_W) : va_W := w.mapIdx (fun i q => (ρ i, am_ce κ ρ q))
/-- ρ' is ρ but for the places from n on, below n1: the new ones -/
noncomputable def am_ext (n n1 : Nat) (ρ ρ' : Nat → Nat) : Prop := ∀ i, (i < n ∨ n1 ≤ i) → ρ' i = ρ i
theorem am_ext.rfl' {n n1 : Nat} {ρ : Nat → Nat} : am_ext n n1 ρ ρ := fun _ _ => rfl
theorem am_ext.trans {n n1 n2 : Nat} {ρ ρ' ρ'' : Nat → Nat} (h1 : n ≤ n1) (h2 : n1 ≤ n2) (h : am_ext n n1 ρ ρ') (h' : am_ext n1 n2 ρ' ρ'') : am_ext n n2 ρ ρ'' := fun i hi => (h' i (by omega)).trans (h i (by omega))
theorem am_ext.up {n q : Nat} {ρ : Nat → Nat} : am_ext n (n + 1) ρ (va_up ρ n q) := fun i hi => by
  unfold va_up
  rw [if_neg (by omega)]
theorem am_ext.same {n : Nat} {ρ ρ' : Nat → Nat} (h : am_ext n n ρ ρ') : ρ' = ρ := funext fun i => h i (by omega)
theorem am_v_ext {n n1 : Nat} {ρ ρ' : Nat → Nat} (hB : n1 ≤ am_B) (h : am_ext n n1 ρ ρ') {v : Value} (hv : am_ok1 n v = true) : am_v ρ' v = am_v ρ v := by
  cases v with
  | ref i =>
    show Value.ref (ρ' i) = Value.ref (ρ i)
    rw [h i]
    simp only [am_ok1, Bool.or_eq_true] at hv
    exact hv.imp am_blt (fun q => Nat.le_trans hB (Nat.le_of_ble_eq_true q))
  | _ => rfl
theorem am_vs_ext {n n1 : Nat} {ρ ρ' : Nat → Nat} (hB : n1 ≤ am_B) (h : am_ext n n1 ρ ρ') {st : List Value} (hv : am_okS n st = true) : st.map (am_v ρ') = st.map (am_v ρ) := by
  refine List.map_congr_left fun v hm => am_v_ext hB h ?_
  exact List.all_eq_true.mp hv v hm
theorem am_cw_get {κ : Nat → ClassId} {ρ : Nat → Nat} {w : am_W} {a : Nat} {q : am_C} (h : w[a]? = some q) : (am_cw κ ρ w)[a]? = some (ρ a, am_ce κ ρ q) := by
  simp [am_cw, List.getElem?_mapIdx, h]
theorem am_cw_set {κ : Nat → ClassId} {ρ : Nat → Nat} {w : am_W} {a : Nat} {q : am_C} : am_cw κ ρ (w.set a q) = (am_cw κ ρ w).set a (ρ a, am_ce κ ρ q) := by
  refine List.ext_getElem? fun i => ?_
  by_cases hi : a = i
  · subst hi
    by_cases hl : a < w.length
    · simp [am_cw, List.getElem?_mapIdx, List.getElem?_set, hl]
    · simp [am_cw, List.getElem?_mapIdx, List.getElem?_set, hl]
  · simp [am_cw, List.getElem?_mapIdx, List.getElem?_set, hi]
theorem am_cw_app {κ : Nat → ClassId} {ρ : Nat → Nat} {w : am_W} {q : am_C} : am_cw κ ρ (w ++ [q]) = am_cw κ ρ w ++ [(ρ w.length, am_ce κ ρ q)] := by
  simp [am_cw, List.mapIdx_append]
theorem am_ce_ext {κ : Nat → ClassId} {n n1 : Nat} {ρ ρ' : Nat → Nat} (hB : n1 ≤ am_B) (h : am_ext n n1 ρ ρ') {q : am_C} (hq : am_okC n q = true) : am_ce κ ρ' q = am_ce κ ρ q := by
  match q, hq with
  | .inl (.inl (t, l)), _ => rfl
  | .inl (.inr (.inl l)), _ => rfl
  | .inl (.inr (.inr l)), hq =>
    have : (fun k => (l.getD k none).map ρ') = (fun k => (l.getD k none).map ρ) := by
      funext k
      cases hk : l.getD k none with
      | none => rfl
      | some i =>
        simp only [Option.map_some, Option.some.injEq]
        refine h i (Or.inl ?_)
        have hm : some i ∈ l := by
          rw [List.getD_eq_getElem?_getD] at hk
          cases hg : l[k]? with
          | none => rw [hg] at hk; cases hk
          | some x =>
            rw [hg] at hk
            have : x = some i := hk
            subst this
            exact List.mem_of_getElem? hg
        exact am_blt (List.all_eq_true.mp hq _ hm)
    simp only [am_ce, this]
  | .inr (ci, fs), hq =>
    have := am_vs_ext hB h (st := fs) hq
    simp only [am_ce, this]
theorem am_cw_ext {κ : Nat → ClassId} {n1 : Nat} {ρ ρ' : Nat → Nat} {w : am_W} (hB : n1 ≤ am_B) (h : am_ext w.length n1 ρ ρ') (hw : am_okW w = true) : am_cw κ ρ' w = am_cw κ ρ w := by
  refine List.ext_getElem? fun i => ?_
  simp only [am_cw, List.getElem?_mapIdx]
  cases hi : w[i]? with
  | none => rfl
  | some q =>
    simp only [Option.map_some]
    rw [h i (Or.inl (List.getElem?_eq_some_iff.mp hi).1), am_ce_ext hB h (List.all_eq_true.mp hw q (List.mem_of_getElem? hi))]
/-! the locals -/
noncomputable def am_lv (ρ : Nat → Nat) : Nat → am_L → List (Nat × Value)
  | _, [] => []
  | i, none :: r => am_lv ρ (i + 1) r
  | i, some v :: r => (i, am_v ρ v) :: am_lv ρ (i + 1) r
theorem am_lv_mem {ρ : Nat → Nat} : ∀ {ls : am_L} {i : Nat} {q : Nat × Value}, q ∈ am_lv ρ i ls ↔ ∃ j v, q = (i + j, am_v ρ v) ∧ ls[j]? = some (some v)
  | [], i, q => by simp [am_lv]
  | none :: r, i, q => by
    rw [am_lv, am_lv_mem]
    constructor
    · rintro ⟨j, v, h1, h2⟩
      exact ⟨j + 1, v, by rw [h1]; congr 1; omega, by simpa using h2⟩
    · rintro ⟨j, v, h1, h2⟩
      cases j with
      | zero => simp at h2
      | succ j => exact ⟨j, v, by rw [h1]; congr 1; omega, by simpa using h2⟩
  | some u :: r, i, q => by
    rw [am_lv, List.mem_cons, am_lv_mem]
    constructor
    · rintro (h | ⟨j, v, h1, h2⟩)
      · exact ⟨0, u, h, by simp⟩
      · exact ⟨j + 1, v, by rw [h1]; congr 1; omega, by simpa using h2⟩
    · rintro ⟨j, v, h1, h2⟩
      cases j with
      | zero =>
        simp at h2
        subst h2
        exact Or.inl h1
      | succ j => exact Or.inr ⟨j, v, by rw [h1]; congr 1; omega, by simpa using h2⟩
theorem am_lv_mono {Ls : Array Slot} {n : Nat} {l l' : List (Nat × Value)} (h : lv_has Ls n l) (hs : ∀ q ∈ l', q ∈ l) : lv_has Ls n l' := ⟨h.1, h.2.1, fun q hq => h.2.2 q (hs q hq)⟩
theorem am_lv_at {ρ : Nat → Nat} {Ls : Array Slot} {n : Nat} {ls : am_L} {i : Nat} {v : Value} (h : lv_has Ls n (am_lv ρ 0 ls)) (hi : ls[i]? = some (some v)) : Ls[i]? = some (.val (am_v ρ v)) :=
  h.2.2 (i, am_v ρ v) (am_lv_mem.mpr ⟨i, v, by rw [Nat.zero_add], hi⟩)
theorem am_lv_ext {n n1 : Nat} {ρ ρ' : Nat → Nat} (hB : n1 ≤ am_B) (h : am_ext n n1 ρ ρ') : ∀ {ls : am_L} {i : Nat}, am_okL n ls = true → am_lv ρ' i ls = am_lv ρ i ls
  | [], _, _ => rfl
  | none :: r, i, hk => by
    have h2 : am_okL n r = true := by simpa [am_okL] using hk
    rw [am_lv, am_lv, am_lv_ext hB h h2]
  | some v :: r, i, hk => by
    have h2 : am_ok1 n v = true ∧ am_okL n r = true := by simpa [am_okL] using hk
    rw [am_lv, am_lv, am_lv_ext hB h h2.2, am_v_ext hB h h2.1]
theorem am_cat (ρ : Nat → Nat) (v : Value) : (am_v ρ v).category = v.category := by cases v <;> rfl
theorem am_clr_get {ls : am_L} {i j : Nat} {u : Value} (h : (am_clr ls i)[j]? = some (some u)) : ls[j]? = some (some u) ∧ ¬ (j + 1 = i ∧ u.category = 2) := by
  unfold am_clr at h
  cases i with
  | zero => exact ⟨h, fun q => by omega⟩
  | succ t =>
    simp only at h
    split at h
    · rename_i v hv
      by_cases hc : v.category = 2
      · rw [if_pos hc, List.getElem?_set] at h
        by_cases ht : t = j
        · rw [if_pos ht] at h
          split at h <;> cases h
        · rw [if_neg ht] at h
          exact ⟨h, fun q => ht (by omega)⟩
      · rw [if_neg hc] at h
        refine ⟨h, fun q => hc ?_⟩
        have : j = t := by omega
        subst this
        rw [hv] at h
        cases h
        exact q.2
    · rename_i hv
      refine ⟨h, fun q => ?_⟩
      have : j = t := by omega
      subst this
      exact hv u h
theorem am_clr_len {ls : am_L} {i : Nat} : (am_clr ls i).length = ls.length := by
  unfold am_clr
  cases i with
  | zero => rfl
  | succ t =>
    simp only
    split
    · split
      · exact List.length_set
      · rfl
    · rfl
theorem am_st1_len {ls : am_L} {i : Nat} {v : Value} : (am_st1 ls i v).length = ls.length := by rw [am_st1, List.length_set, am_clr_len]
theorem am_st2_len {ls : am_L} {i : Nat} {v : Value} : (am_st2 ls i v).length = ls.length := by rw [am_st2, List.length_set, List.length_set, am_clr_len]
theorem am_st1_lv {ρ : Nat → Nat} {Ls : Array Slot} {n i : Nat} {ls : am_L} {v : Value} (hi : i < ls.length) (h : lv_has Ls n ((i, am_v ρ v) :: (am_lv ρ 0 ls).filter (fun q => !(q.1 == i) && !(q.1 + 1 == i && q.2.category == 2)))) : lv_has Ls n (am_lv ρ 0 (am_st1 ls i v)) := by
  refine am_lv_mono h fun q hq => ?_
  obtain ⟨j, u, rfl, h2⟩ := am_lv_mem.mp hq
  rw [am_st1, List.getElem?_set] at h2
  by_cases hj : i = j
  · subst hj
    rw [if_pos rfl] at h2
    split at h2
    · cases h2
      rw [Nat.zero_add]
      exact List.mem_cons_self
    · cases h2
  · rw [if_neg hj] at h2
    obtain ⟨h3, h4⟩ := am_clr_get h2
    refine List.mem_cons_of_mem _ (List.mem_filter.mpr ⟨am_lv_mem.mpr ⟨j, u, rfl, h3⟩, ?_⟩)
    simp only [Bool.and_eq_true, Bool.not_eq_true', beq_eq_false_iff_ne, ne_eq, Bool.and_eq_false_iff, Nat.zero_add, am_cat]
    refine ⟨fun q => hj q.symm, ?_⟩
    by_cases h5 : j + 1 = i
    · exact Or.inr fun q => h4 ⟨h5, q⟩
    · exact Or.inl h5
theorem am_st2_lv {ρ : Nat → Nat} {Ls : Array Slot} {n i : Nat} {ls : am_L} {v : Value} (hi : i < ls.length) (h : lv_has Ls n ((i, am_v ρ v) :: (am_lv ρ 0 ls).filter (fun q => !(q.1 == i) && (!(q.1 == i + 1) && !(q.1 + 1 == i && q.2.category == 2))))) : lv_has Ls n (am_lv ρ 0 (am_st2 ls i v)) := by
  refine am_lv_mono h fun q hq => ?_
  obtain ⟨j, u, rfl, h2⟩ := am_lv_mem.mp hq
  rw [am_st2, List.getElem?_set] at h2
  by_cases hj1 : i + 1 = j
  · rw [if_pos hj1] at h2
    split at h2 <;> cases h2
  rw [if_neg hj1, List.getElem?_set] at h2
  by_cases hj : i = j
  · subst hj
    rw [if_pos rfl] at h2
    split at h2
    · cases h2
      rw [Nat.zero_add]
      exact List.mem_cons_self
    · cases h2
  · rw [if_neg hj] at h2
    obtain ⟨h3, h4⟩ := am_clr_get h2
    refine List.mem_cons_of_mem _ (List.mem_filter.mpr ⟨am_lv_mem.mpr ⟨j, u, rfl, h3⟩, ?_⟩)
    simp only [Bool.and_eq_true, Bool.not_eq_true', beq_eq_false_iff_ne, ne_eq, Bool.and_eq_false_iff, Nat.zero_add, am_cat]
    refine ⟨fun q => hj q.symm, fun q => hj1 q.symm, ?_⟩
    by_cases h5 : j + 1 = i
    · exact Or.inr fun q => h4 ⟨h5, q⟩
    · exact Or.inl h5
/-! what cells and slots a world takes -/
noncomputable def am_szc (q : am_C) : Nat := match q with
  | .inl (.inl (_, l)) => l.length
  | .inl (.inr (.inl l)) => l.length
  | .inl (.inr (.inr l)) => l.length
  | .inr (_, fs) => fs.length
noncomputable def am_sz : am_W → Nat
  | [] => 0
  | q :: r => am_szc q + am_sz r
theorem am_sz_set : ∀ {w : am_W} {a : Nat} {q q' : am_C}, w[a]? = some q → am_szc q' = am_szc q → am_sz (w.set a q') = am_sz w
  | [], a, q, q', h, _ => by simp at h
  | x :: r, 0, q, q', h, e => by
    simp at h
    subst h
    simp [am_sz, e]
  | x :: r, a + 1, q, q', h, e => by
    have h2 : r[a]? = some q := by simpa using h
    simp [am_sz, am_sz_set h2 e]
theorem am_sz_app : ∀ {w : am_W} {q : am_C}, am_sz (w ++ [q]) = am_sz w + am_szc q
  | [], q => by simp [am_sz]
  | x :: r, q => by simp [am_sz, am_sz_app (w := r) (q := q), Nat.add_assoc]
theorem am_cpy_len {f g : List Int32} {sp dp n : Nat} (h1 : sp + n ≤ f.length) (h2 : dp + n ≤ g.length) : (am_cpy f g sp dp n).length = g.length := by
  simp [am_cpy]
  omega
