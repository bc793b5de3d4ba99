/-! ===== a step of my machine is a step of the Statement's ===== -/
noncomputable def am_A (b0 : Nat) : Nat → Prop := fun q => b0 ≤ q
noncomputable def am_tys (κ : Nat → ClassId) : List (ClassId × FieldType) := [(κ 0, .int), (κ 1, .boolean), (κ 2, .long), (κ 3, .object RX6)]
noncomputable def am_Nst (U : State) : Prop := (∀ oc, oc < 16 → ∀ idx kd z n, am_find (am_invT oc) idx = some (kd, z, n) → 3 ≤ kd → kd ≤ 5 → va_Nw (.methodLinkNest (am_cn oc) idx (am_y z) RX9) U) ∧ va_Nw (.fieldLinkNest RX6 108 RX9 "ROOT" "[I" RX9) U
noncomputable def am_Kn (D : va_G) (κ : Nat → ClassId) (b0 : Nat) (X : Option (List Int32)) (ρ : Nat → Nat) (U : State) : Prop :=
  b0 ≤ U.heap.size ∧ va_K D vwCl (am_tys κ) U ∧ am_Nst U ∧ va_AO RX6 U ∧ va_Z RX9 "ROOT" "[I" (.ref (ρ am_B)) (am_A b0) U U.heap ∧ va_T .int (ρ am_B) 26 (fun j => .int (am_root.getD j 0)) (am_A b0) U U.heap ∧ (∀ xs, X = some xs → va_T .int (ρ (am_B + 1)) xs.length (fun j => .int (xs.getD j 0)) (am_A b0) U U.heap)
noncomputable def am_H (D : va_G) (κ : Nat → ClassId) (b0 : Nat) (ρ : Nat → Nat) (w : am_W) (H : Heap) : Prop := va_P D vwCl (am_cw κ ρ w) H ∧ va_D (am_A b0) (am_cw κ ρ w)
noncomputable def am_Cx (p : Program) (s : State) (m : MethodId) (args : Array Value) (meth : Method) (c : Code) (k : Nat) : Prop :=
  p.tables.exec = Jvm.exec ∧ c.code = am_by k ∧ c.maxLocals = am_ml k ∧ s.vm.findClass (am_cn (am_oc k)) = some m.cls ∧ (∀ w ∈ am_T, w.before args s = true) ∧ ((am_mi k).2.2.2 = true → meth.name = "<init>")
noncomputable def am_Go (p : Program) (l : Launch) (e : Env) (R : Room) (s : State) (m : MethodId) (args : Array Value) (below : List Frame) (meth : Method) (c : Code) (Q : State → Prop) (D : va_G) (κ : Nat → ClassId) (b0 k : Nat) (ρ : Nat → Nat) (w w1 : am_W) (pc1 : Nat) (ls1 : am_L) (st1 : List Value) (cells slots : Nat) : Prop :=
  ∀ (ρ' : Nat → Nat) (H' : Heap) (locs' : List Loc) (Ls' : Array Slot), am_ext w.length w1.length ρ ρ' → am_H D κ b0 ρ' w1 H' → va_S (am_A b0) s.heap H' locs' → lv_has Ls' (am_ml k) (am_lv ρ' 0 ls1) → W p l e R s m args below meth c H' locs' (cells + (w1.length - w.length)) (slots + (am_sz w1 - am_sz w)) Q (F0 m pc1 Ls' (st1.map (am_v ρ')))
theorem am_cl {ci : Nat} (h : ci < 11) : vwCl[ci]? = some (am_cn ci, am_TT ci, (am_ft ci).length) := by
  match ci, h with
  | 0, _ => rfl
  | 1, _ => rfl
  | 2, _ => rfl
  | 3, _ => rfl
  | 4, _ => rfl
  | 5, _ => rfl
  | 6, _ => rfl
  | 7, _ => rfl
  | 8, _ => rfl
  | 9, _ => rfl
  | 10, _ => rfl
theorem am_fld {oc idx ci k : Nat} (ho : oc < 16) (h : am_find (am_fldT oc) idx = some (ci, k)) : ci < 11 ∧ k < (am_ft ci).length ∧ Cond.fieldLink (am_cn oc) idx (am_TT ci k).1 (am_TT ci k).2.1 (am_TT ci k).2.2.1 ∈ am_T := by
  have h1 := List.all_eq_true.mp (List.all_eq_true.mp ok_fld oc (List.mem_range.mpr ho)) _ (am_find_mem h)
  obtain ⟨h1, h2⟩ := am_and h1
  obtain ⟨h2, h3⟩ := am_and h2
  exact ⟨am_blt h1, am_blt h2, am_inT h3⟩
theorem am_lay {ci : Nat} (h : ci < 11) : ∀ w ∈ u_ws (am_cn ci) (am_TT ci) (am_ft ci).length, w ∈ am_T := fun w hw => am_inT (List.all_eq_true.mp (List.all_eq_true.mp ok_lay ci (List.mem_range.mpr h)) w hw)
noncomputable def am_ty (ci k : Nat) : FieldType := (((am_ft ci)[k]?).map (fun q => q.1)).getD .int
theorem am_tyk {ci k : Nat} (h : ci < 11) (hk : k < (am_ft ci).length) : (am_ft ci)[k]? = (parseFieldDescriptor (am_TT ci k).2.2.1).map (fun t => (t, (am_TT ci k).2.2.2)) ∧ (am_TT ci k).1 = am_cn ci ∧ ∀ j, j < (am_ft ci).length → k ≠ j → (am_TT ci k).2.1 ≠ (am_TT ci j).2.1 := by
  have h1 := List.all_eq_true.mp (List.all_eq_true.mp ok_ty ci (List.mem_range.mpr h)) k (List.mem_range.mpr hk)
  obtain ⟨h1, h2⟩ := am_and h1
  obtain ⟨h2, h3⟩ := am_and h2
  refine ⟨of_decide_eq_true h1, of_decide_eq_true h2, fun j hj hne => ?_⟩
  have h4 := List.all_eq_true.mp h3 j (List.mem_range.mpr hj)
  rcases Bool.or_eq_true _ _ |>.mp h4 with h5 | h5
  · exact absurd (of_decide_eq_true h5) hne
  · exact of_decide_eq_true h5
theorem am_tyd {ci k : Nat} (h : ci < 11) (hk : k < (am_ft ci).length) : parseFieldDescriptor (am_TT ci k).2.2.1 = some (am_ty ci k) := by
  have h1 := (am_tyk h hk).1
  have h2 : (am_ft ci)[k]? = some (am_ft ci)[k] := List.getElem?_eq_getElem hk
  unfold am_ty
  cases hp : parseFieldDescriptor (am_TT ci k).2.2.1 with
  | none => rw [hp, h2] at h1; cases h1
  | some t => rw [h1, hp]; rfl
theorem am_ocl {k : Nat} (hk : k < 194) : am_oc k < 16 := by
  have : (List.range 194).all (fun k => Nat.blt (am_oc k) 16) = true := by decide +kernel
  exact am_blt (List.all_eq_true.mp this k (List.mem_range.mpr hk))
theorem am_fitv {ty : FieldType} {v : Value} (ρ : Nat → Nat) (h : am_fit ty v = true) : narrow ty (am_v ρ v) = am_v ρ v ∧ fits ty (am_v ρ v) = true := by
  unfold am_fit at h
  split at h
  · exact ⟨rfl, rfl⟩
  · exact ⟨rfl, rfl⟩
  · rename_i x
    rcases of_decide_eq_true h with rfl | rfl
    · exact ⟨by show narrow .boolean (.int 0) = .int 0; decide, by show fits .boolean (.int 0) = true; decide⟩
    · exact ⟨by show narrow .boolean (.int 1) = .int 1; decide, by show fits .boolean (.int 1) = true; decide⟩
  · exact ⟨rfl, rfl⟩
  · exact ⟨rfl, rfl⟩
  · cases h
section AMS
variable {p : Program} {l : Launch} {e : Env} {R : Room} {s : State} {m : MethodId} {args : Array Value} {below : List Frame} {meth : Method} {c : Code} {Q : State → Prop}
variable {D : va_G} {κ : Nat → ClassId} {b0 : Nat} {X : Option (List Int32)} {k : Nat} {ρ : Nat → Nat} {H : Heap} {locs : List Loc} {Ls : Array Slot} {cells slots pc : Nat} {ls : am_L} {st : List Value} {w : am_W}
theorem am_Go.stay {pc1 : Nat} {ls1 : am_L} {st1 : List Value} (K : am_Go p l e R s m args below meth c Q D κ b0 k ρ w w pc1 ls1 st1 cells slots) (hH : am_H D κ b0 ρ w H) (hS : va_S (am_A b0) s.heap H locs) (hl : lv_has Ls (am_ml k) (am_lv ρ 0 ls1)) : W p l e R s m args below meth c H locs cells slots Q (F0 m pc1 Ls (st1.map (am_v ρ))) := by
  have h := K ρ H locs Ls am_ext.rfl' hH hS hl
  rw [Nat.sub_self, Nat.sub_self] at h
  exact h
theorem am_Go.put {pc1 : Nat} {ls1 : am_L} {st1 : List Value} {a : Nat} {q q' : am_C} (ha : w[a]? = some q) (hq : am_szc q' = am_szc q) (K : am_Go p l e R s m args below meth c Q D κ b0 k ρ w (w.set a q') pc1 ls1 st1 cells slots) {H1 : Heap} {locs1 : List Loc} (hP : va_P D vwCl ((am_cw κ ρ w).set a (ρ a, am_ce κ ρ q')) H1) (hD : va_D (am_A b0) ((am_cw κ ρ w).set a (ρ a, am_ce κ ρ q'))) (hS : va_S (am_A b0) s.heap H1 locs1) (hl : lv_has Ls (am_ml k) (am_lv ρ 0 ls1)) : W p l e R s m args below meth c H1 locs1 cells slots Q (F0 m pc1 Ls (st1.map (am_v ρ))) := by
  have h := K ρ H1 locs1 Ls am_ext.rfl' ⟨by rw [am_cw_set]; exact hP, by rw [am_cw_set]; exact hD⟩ hS hl
  rw [List.length_set, Nat.sub_self, am_sz_set ha hq, Nat.sub_self] at h
  exact h
theorem am_Go.make {pc1 : Nat} {ls1 : am_L} {st1 : List Value} {q : am_C} {ad : Nat} (hw : am_okW w = true) (hL : am_okL w.length ls1 = true) (hr : am_okS w.length st1 = true) (hB : w.length < am_B) (K : am_Go p l e R s m args below meth c Q D κ b0 k ρ w (w ++ [q]) pc1 ls1 (.ref w.length :: st1) cells slots) {H1 : Heap} {locs1 : List Loc} {E : va_E} (hE : ∀ ρ', am_ce κ ρ' q = E) (hP : va_P D vwCl (am_cw κ ρ w ++ [(ad, E)]) H1) (hD : va_D (am_A b0) (am_cw κ ρ w ++ [(ad, E)])) (hS : va_S (am_A b0) s.heap H1 locs1) (hl : lv_has Ls (am_ml k) (am_lv ρ 0 ls1)) : W p l e R s m args below meth c H1 locs1 (cells + 1) (slots + am_szc q) Q (F0 m pc1 Ls (.ref ad :: st1.map (am_v ρ))) := by
  have hx : am_ext w.length (w.length + 1) ρ (va_up ρ w.length ad) := am_ext.up
  have hB1 : w.length + 1 ≤ am_B := hB
  have hc : am_cw κ (va_up ρ w.length ad) (w ++ [q]) = am_cw κ ρ w ++ [(ad, E)] := by
    rw [am_cw_app, am_cw_ext hB1 hx hw, hE]
    simp [va_up]
  have h := K (va_up ρ w.length ad) H1 locs1 Ls (by rw [List.length_append]; exact hx) ⟨by rw [hc]; exact hP, by rw [hc]; exact hD⟩ hS (by rw [am_lv_ext hB1 hx hL]; exact hl)
  rw [List.map_cons, am_vs_ext hB1 hx hr, List.length_append, am_sz_app] at h
  have e1 : am_v (va_up ρ w.length ad) (.ref w.length) = .ref ad := by simp [am_v, va_up]
  rw [e1] at h
  have e2 : w.length + [q].length - w.length = 1 := by simp
  have e3 : am_sz w + am_szc q - am_sz w = am_szc q := by omega
  rw [e2, e3] at h
  exact h
theorem am_upd {l : List Int32} {i : Nat} {x : Int32} (h : i < l.length) : (fun k => (l.set i x).getD k 0) = upd (fun k => l.getD k 0) i x := by
  funext k
  unfold upd
  simp only [List.getD_eq_getElem?_getD, List.getElem?_set]
  by_cases hk : i = k
  · subst hk
    rw [if_pos rfl, if_pos h, if_pos rfl]; rfl
  · rw [if_neg hk, if_neg (fun q => hk q.symm)]
theorem am_updL {l : List Int64} {i : Nat} {x : Int64} (h : i < l.length) : (fun k => (l.set i x).getD k 0) = vp_updL (fun k => l.getD k 0) i x := by
  funext k
  unfold vp_updL
  simp only [List.getD_eq_getElem?_getD, List.getElem?_set]
  by_cases hk : i = k
  · subst hk
    rw [if_pos rfl, if_pos h, if_pos rfl]; rfl
  · rw [if_neg hk, if_neg (fun q => hk q.symm)]
theorem am_updQ {l : List (Option Nat)} {i v : Nat} (h : i < l.length) : (fun k => ((l.set i (some v)).getD k none).map ρ) = va_up (fun k => (l.getD k none).map ρ) i (some (ρ v)) := by
  funext k
  unfold va_up
  simp only [List.getD_eq_getElem?_getD, List.getElem?_set]
  by_cases hk : i = k
  · subst hk
    rw [if_pos rfl, if_pos h, if_pos rfl]; rfl
  · rw [if_neg hk, if_neg (fun q => hk q.symm)]
theorem am_inlt {i : Int32} {n : Nat} (h : vp_in i n) : i.toNatClampNeg < n := Nat.not_le.mp fun q => h (Or.inr q)
theorem am_cpyf {f g : List Int32} {sp dp n : Nat} (h1 : sp + n ≤ f.length) (h2 : dp + n ≤ g.length) : (fun k => (am_cpy f g sp dp n).getD k 0) = va_cpy (fun k => f.getD k 0) (fun k => g.getD k 0) sp dp n := by
  funext k
  unfold va_cpy am_cpy
  simp only [List.getD_eq_getElem?_getD]
  rcases Nat.lt_or_ge k dp with h3 | h3
  · rw [if_neg (by omega), List.append_assoc, List.getElem?_append_left (by simp; omega), List.getElem?_take_of_lt h3]
  · rcases Nat.lt_or_ge k (dp + n) with h4 | h4
    · rw [if_pos ⟨h3, h4⟩, List.append_assoc, List.getElem?_append_right (by simp; omega), List.getElem?_append_left (by simp; omega), List.getElem?_take_of_lt (by simp; omega), List.getElem?_drop]
      congr 2
      simp
      omega
    · rw [if_neg (by omega), List.getElem?_append_right (by simp; omega), List.getElem?_drop]
      congr 2
      simp
      omega
end AMS
