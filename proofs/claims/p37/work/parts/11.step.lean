theorem am_nx_inv {pc : Nat} {ls : am_L} {st : List Value} {w : am_W} {o : am_R} (h : am_nx pc ls st w = some o) : o = .inl ((pc, ls, st), w) := (Option.some.inj h).symm
set_option maxRecDepth 100000 in
theorem am_csti {oc idx : Nat} {x : Int32} (ho : oc < 16) (h : am_find (am_cstT oc) idx = some (.int x)) : Cond.constant (am_cn oc) idx x ∈ am_T := by
  have h1 := List.all_eq_true.mp (List.all_eq_true.mp ok_cst oc (List.mem_range.mpr ho)) _ (am_find_mem h)
  have h2 : am_in (.constant (am_cn oc) idx x) = true := h1
  exact am_inT h2
set_option maxRecDepth 100000 in
theorem am_cstl {oc idx : Nat} {x : Int64} (ho : oc < 16) (h : am_find (am_cstT oc) idx = some (.long x)) : Cond.constantLong (am_cn oc) idx x ∈ am_T := by
  have h1 := List.all_eq_true.mp (List.all_eq_true.mp ok_cst oc (List.mem_range.mpr ho)) _ (am_find_mem h)
  have h2 : am_in (.constantLong (am_cn oc) idx x) = true := h1
  exact am_inT h2
theorem am_newi {oc idx ci : Nat} (ho : oc < 16) (h : am_find (am_newT oc) idx = some ci) : ci < 11 ∧ Cond.classLink (am_cn oc) idx (am_cn ci) ∈ am_T ∧ Cond.instantiable (am_cn ci) (am_ft ci).length ∈ am_T ∧ Cond.initialized (am_cn ci) ∈ am_T := by
  have h1 := List.all_eq_true.mp (List.all_eq_true.mp ok_new oc (List.mem_range.mpr ho)) _ (am_find_mem h)
  obtain ⟨h1, h2⟩ := am_and h1
  obtain ⟨h2, h3⟩ := am_and h2
  obtain ⟨h3, h4⟩ := am_and h3
  exact ⟨am_blt h1, am_inT h2, am_inT h3, am_inT h4⟩
set_option maxRecDepth 100000 in
theorem ok_dfl : (List.range 11).all (fun c => (am_ft c).all (fun q => decide (defaultValue q.1 = am_dflt q.1))) = true := by decide +kernel
theorem am_dfl_v (ρ : Nat → Nat) (t : FieldType) : am_v ρ (am_dflt t) = am_dflt t := by
  unfold am_dflt
  split <;> rfl
theorem am_dfls {ci j : Nat} (h : ci < 11) (hj : j < (am_ft ci).length) : defaultValue (am_ty ci j) = vp_V ((am_ft ci).map (fun q => am_dflt q.1)) j := by
  have h2 : (am_ft ci)[j]? = some (am_ft ci)[j] := List.getElem?_eq_getElem hj
  have h3 := of_decide_eq_true (List.all_eq_true.mp (List.all_eq_true.mp ok_dfl ci (List.mem_range.mpr h)) _ (List.mem_of_getElem? h2))
  unfold vp_V am_ty
  rw [List.getD_eq_getElem?_getD, List.getElem?_map, h2]
  exact h3
set_option maxRecDepth 100000 in
theorem ok_arrI : am_in (.arrayClass .int) = true := by decide +kernel
set_option maxRecDepth 100000 in
theorem ok_arrZ : am_in (.arrayClass .boolean) = true := by decide +kernel
set_option maxRecDepth 100000 in
theorem ok_arrL : am_in (.arrayClass .long) = true := by decide +kernel
set_option maxRecDepth 100000 in
theorem ok_arrQ : am_in (.classLink RX9 16 RX6) = true := by decide +kernel
set_option maxRecDepth 100000 in
theorem ok_cpy : (List.range 16).all (fun c => (am_invT c).all (fun q => !(Nat.beq q.2.1 6) || (am_in (.methodLink (am_cn c) q.1 arraycopyName)))) = true := by decide +kernel
set_option maxRecDepth 100000 in
theorem ok_cpy2 : (am_in (.native arraycopyName) && (am_in (.static arraycopyName) && am_in (.initialized "java/lang/System"))) = true := by decide +kernel
set_option maxRecDepth 100000 in
theorem ok_obj : (List.range 16).all (fun c => (am_invT c).all (fun q => !(Nat.beq q.2.1 7) || (am_in (.methodLink (am_cn c) q.1 Lib.objectInit)))) = true := by decide +kernel
set_option maxRecDepth 100000 in
theorem ok_obj2 : (am_in (.instanceMethod Lib.objectInit) && am_in (.code Lib.objectInit ⟨#[0xb1]⟩ 1 none)) = true := by decide +kernel
theorem am_cpyw {oc idx z n : Nat} (ho : oc < 16) (h : am_find (am_invT oc) idx = some (6, z, n)) : Cond.methodLink (am_cn oc) idx arraycopyName ∈ am_T := am_inT (List.all_eq_true.mp (List.all_eq_true.mp ok_cpy oc (List.mem_range.mpr ho)) _ (am_find_mem h))
set_option maxRecDepth 100000 in
theorem ok_mm : (List.range 16).all (fun c => (am_invT c).all (fun q => (!(Nat.beq q.2.1 8) || (am_in (.methodLink (am_cn c) q.1 Lib.Math.max.name))) && (!(Nat.beq q.2.1 9) || (am_in (.methodLink (am_cn c) q.1 Lib.Math.min.name))))) = true := by decide +kernel
set_option maxRecDepth 100000 in
theorem ok_mm8 : (am_in (.static Lib.Math.max.name) && (am_in (.initialized "java/lang/Math") && am_in (.code Lib.Math.max.name Lib.Math.max.code 2 (some .int)))) = true := by decide +kernel
set_option maxRecDepth 100000 in
theorem ok_mm9 : (am_in (.static Lib.Math.min.name) && (am_in (.initialized "java/lang/Math") && am_in (.code Lib.Math.min.name Lib.Math.min.code 2 (some .int)))) = true := by decide +kernel
theorem am_mmw8 {oc idx z n : Nat} (ho : oc < 16) (h : am_find (am_invT oc) idx = some (8, z, n)) : Cond.methodLink (am_cn oc) idx Lib.Math.max.name ∈ am_T := am_inT (am_and (List.all_eq_true.mp (List.all_eq_true.mp ok_mm oc (List.mem_range.mpr ho)) _ (am_find_mem h))).1
theorem am_mmw9 {oc idx z n : Nat} (ho : oc < 16) (h : am_find (am_invT oc) idx = some (9, z, n)) : Cond.methodLink (am_cn oc) idx Lib.Math.min.name ∈ am_T := am_inT (am_and (List.all_eq_true.mp (List.all_eq_true.mp ok_mm oc (List.mem_range.mpr ho)) _ (am_find_mem h))).2
theorem am_objw {oc idx z n : Nat} (ho : oc < 16) (h : am_find (am_invT oc) idx = some (7, z, n)) : Cond.methodLink (am_cn oc) idx Lib.objectInit ∈ am_T := am_inT (List.all_eq_true.mp (List.all_eq_true.mp ok_obj oc (List.mem_range.mpr ho)) _ (am_find_mem h))
theorem am_small {n : Int32} (h : ¬ (n < 0 ∨ 100000 < n)) : n.toNatClampNeg ≤ 100000 := by
  simp only [not_or, Int32.lt_iff_toInt_lt] at h
  have e1 : (100000 : Int32).toInt = 100000 := by decide
  rw [e1] at h
  have : n.toNatClampNeg = n.toInt.toNat := rfl
  omega
theorem am_cats (ρ : Nat → Nat) (r : List Value) : ((r.map (am_v ρ)).map fun v => v.category).sum = (r.map fun v => v.category).sum := by
  rw [List.map_map]
  congr 1
  exact List.map_congr_left fun v _ => am_cat ρ v
theorem am_repl {n k : Nat} : (List.replicate n (0 : Int32)).getD k 0 = 0 := by
  rw [List.getD_eq_getElem?_getD, List.getElem?_replicate]
  split <;> rfl
theorem am_replL {n k : Nat} : (List.replicate n (0 : Int64)).getD k 0 = 0 := by
  rw [List.getD_eq_getElem?_getD, List.getElem?_replicate]
  split <;> rfl
theorem am_replQ {n k : Nat} : (List.replicate n (none : Option Nat)).getD k none = none := by
  rw [List.getD_eq_getElem?_getD, List.getElem?_replicate]
  split <;> rfl
section AMT
variable {p : Program} {l : Launch} {e : Env} {R : Room} {s : State} {m : MethodId} {args : Array Value} {below : List Frame} {meth : Method} {c : Code} {Q : State → Prop}
variable {D : va_G} {κ : Nat → ClassId} {b0 : Nat} {X : Option (List Int32)} {k : Nat} {ρ : Nat → Nat} {H : Heap} {locs : List Loc} {Ls : Array Slot} {cells slots pc : Nat} {ls : am_L} {st : List Value} {w : am_W}
set_option maxHeartbeats 8000000 in
set_option maxRecDepth 100000 in
theorem am_step1 (hk : k < 194) (C : am_Cx p s m args meth c k) (hKn : am_Kn D κ b0 X ρ s) (hRf : 1 ≤ R.frames) (hRl : 64 ≤ R.locals) (hH : am_H D κ b0 ρ w H) (hS : va_S (am_A b0) s.heap H locs) (hll : ls.length = am_ml k) (hl : lv_has Ls (am_ml k) (am_lv ρ 0 ls)) {ins : Instr} {len : Nat} (hd : decode (am_by k) pc = .ok (ins, len)) (hn : am_lenok ins len = true) {pc1 : Nat} {ls1 : am_L} {st1 : List Value} {w1 : am_W} (h : am_ins X (am_oc k) (am_mi k).2.2.1 (am_mi k).2.2.2 ins pc ls st w = some (.inl ((pc1, ls1, st1), w1))) (hcl : cells + (w1.length - w.length) ≤ R.cells) (hsl : slots + (am_sz w1 - am_sz w) ≤ R.slots) (K : am_Go p l e R s m args below meth c Q D κ b0 k ρ w w1 pc1 ls1 st1 cells slots) : W p l e R s m args below meth c H locs cells slots Q (F0 m pc Ls (st.map (am_v ρ))) := by
  obtain ⟨hx, hb, hml, hown, hts, hini⟩ := C
  obtain ⟨hb0, hK, hN, hAO, hZ, hTr, hTx⟩ := hKn
  obtain ⟨hP, hD⟩ := id hH
  have hA : ∀ q, s.heap.size ≤ q → am_A b0 q := fun q h => Nat.le_trans hb0 h
  have ho := am_ocl hk
  cases ins
  case aload_n n =>
    obtain ⟨x, h1, e⟩ := am_aload_inv h
    cases e
    cases Nat.eq_of_beq_eq_true hn
    exact lv_aload_n hx hb hd rfl (am_lv_at hl h1) (K.stay hH hS hl)
  case aload n =>
    obtain ⟨x, h1, e⟩ := am_aload_inv h
    cases e
    cases Nat.eq_of_beq_eq_true hn
    exact lv_aload hx hb hd (am_lv_at hl h1) (K.stay hH hS hl)
  case astore_n n =>
    obtain ⟨x, r, rfl, h1, e⟩ := am_astore_inv h
    cases e
    cases Nat.eq_of_beq_eq_true hn
    exact lv_astore_n hx hb hd rfl hl (by rw [← hll]; exact h1) rfl (fun Ls1 hl1 => K.stay hH hS (am_st1_lv (v := .ref x) h1 hl1))
  case astore n =>
    obtain ⟨x, r, rfl, h1, e⟩ := am_astore_inv h
    cases e
    cases Nat.eq_of_beq_eq_true hn
    exact lv_astore hx hb hd hl (by rw [← hll]; exact h1) rfl (fun Ls1 hl1 => K.stay hH hS (am_st1_lv (v := .ref x) h1 hl1))
  case iload_n n =>
    obtain ⟨x, h1, e⟩ := am_iload_inv h
    cases e
    cases Nat.eq_of_beq_eq_true hn
    exact lv_iload_n hx hb hd rfl (am_lv_at hl h1) (K.stay hH hS hl)
  case iload n =>
    obtain ⟨x, h1, e⟩ := am_iload_inv h
    cases e
    cases Nat.eq_of_beq_eq_true hn
    exact lv_iload hx hb hd (am_lv_at hl h1) (K.stay hH hS hl)
  case istore_n n =>
    obtain ⟨x, r, rfl, h1, e⟩ := am_istore_inv h
    cases e
    cases Nat.eq_of_beq_eq_true hn
    exact lv_istore_n hx hb hd rfl hl (by rw [← hll]; exact h1) rfl (fun Ls1 hl1 => K.stay hH hS (am_st1_lv (v := .int x) h1 hl1))
  case istore n =>
    obtain ⟨x, r, rfl, h1, e⟩ := am_istore_inv h
    cases e
    cases Nat.eq_of_beq_eq_true hn
    exact lv_istore hx hb hd hl (by rw [← hll]; exact h1) rfl (fun Ls1 hl1 => K.stay hH hS (am_st1_lv (v := .int x) h1 hl1))
  case lload_n n =>
    obtain ⟨x, h1, e⟩ := am_lload_inv h
    cases e
    cases Nat.eq_of_beq_eq_true hn
    exact lv_lload_n hx hb hd rfl (am_lv_at hl h1) (K.stay hH hS hl)
  case lload n =>
    obtain ⟨x, h1, e⟩ := am_lload_inv h
    cases e
    cases Nat.eq_of_beq_eq_true hn
    exact lv_lload hx hb hd (am_lv_at hl h1) (K.stay hH hS hl)
  case lstore_n n =>
    obtain ⟨x, r, rfl, h1, e⟩ := am_lstore_inv h
    cases e
    cases Nat.eq_of_beq_eq_true hn
    exact lv_lstore_n hx hb hd rfl hl (by rw [← hll]; exact h1) rfl (fun Ls1 hl1 => K.stay hH hS (am_st2_lv (v := .long x) (by omega) hl1))
  case lstore n =>
    obtain ⟨x, r, rfl, h1, e⟩ := am_lstore_inv h
    cases e
    cases Nat.eq_of_beq_eq_true hn
    exact lv_lstore hx hb hd hl (by rw [← hll]; exact h1) rfl (fun Ls1 hl1 => K.stay hH hS (am_st2_lv (v := .long x) (by omega) hl1))
  case iconst n =>
    cases am_nx_inv h
    cases Nat.eq_of_beq_eq_true hn
    exact lv_iconst hx hb hd rfl (K.stay hH hS hl)
  case bipush n =>
    cases am_nx_inv h
    cases Nat.eq_of_beq_eq_true hn
    exact lv_bipush hx hb hd rfl (K.stay hH hS hl)
  case sipush n =>
    cases am_nx_inv h
    cases Nat.eq_of_beq_eq_true hn
    exact lv_sipush hx hb hd rfl (K.stay hH hS hl)
  case lconst n =>
    cases am_nx_inv h
    cases Nat.eq_of_beq_eq_true hn
    exact lv_lconst hx hb hd rfl (K.stay hH hS hl)
  case ldc i =>
    rcases am_cst_inv h with ⟨-, x, h2, e⟩ | ⟨h1, -⟩
    · cases e
      cases Nat.eq_of_beq_eq_true hn
      exact lv_ldc hx hb hown (hts _ (am_csti ho h2)) hd (K.stay hH hS hl)
    · cases h1
  case ldc_w i =>
    rcases am_cst_inv h with ⟨-, x, h2, e⟩ | ⟨h1, -⟩
    · cases e
      cases Nat.eq_of_beq_eq_true hn
      exact lv_ldcw hx hb hown (hts _ (am_csti ho h2)) hd (K.stay hH hS hl)
    · cases h1
  case ldc2_w i =>
    rcases am_cst_inv h with ⟨h1, -⟩ | ⟨-, x, h2, e⟩
    · cases h1
    · cases e
      cases Nat.eq_of_beq_eq_true hn
      exact lv_ldc2 hx hb hown (hts _ (am_cstl ho h2)) hd (K.stay hH hS hl)
  case getfield i =>
    obtain ⟨a, r, ci, kf, fs, v, rfl, h1, h2, h3, e⟩ := am_getf_inv h
    cases e
    cases Nat.eq_of_beq_eq_true hn
    obtain ⟨g1, g2, g3⟩ := am_fld ho h1
    exact va_get (v := am_v ρ v) hx hb hts (am_lay g1) hown hK hP a (am_cw_get h2) (am_cl g1) kf g2 (hts _ g3) (fun _ q => q) (by rw [List.getElem?_map, h3]; rfl) hd (K.stay hH hS hl)
  case putfield i =>
    obtain ⟨v, a, r, ci, kf, fs, ty, fin, rfl, h1, h2, h3, h4, h5, h6, e⟩ := am_putf_inv h
    cases e
    cases Nat.eq_of_beq_eq_true hn
    obtain ⟨g1, g2, g3⟩ := am_fld ho h1
    obtain ⟨t1, t2, t3⟩ := am_tyk g1 g2
    have hty : parseFieldDescriptor (am_TT ci kf).2.2.1 = some ty ∧ (am_TT ci kf).2.2.2 = fin := by
      rw [h3] at t1
      cases hp : parseFieldDescriptor (am_TT ci kf).2.2.1 with
      | none => rw [hp] at t1; cases t1
      | some t =>
        rw [hp] at t1
        cases t1
        exact ⟨rfl, rfl⟩
    have hf := am_fitv ρ h4
    have e2 : am_ce κ ρ (.inr (ci, fs.set kf v)) = .inr (ci, (fs.map (am_v ρ)).set kf (am_v ρ v)) := by simp only [am_ce, List.map_set]
    have hnm : ∀ a, a < (am_ft ci).length → ∀ b, b < (am_ft ci).length → a ≠ b → (am_TT ci a).2.1 ≠ (am_TT ci b).2.1 := fun a ha b hb hne => (am_tyk g1 ha).2.2 b hb hne
    have kk : ∀ (H1 : Heap) (locs1 : List Loc), va_P D vwCl ((am_cw κ ρ w).set a (ρ a, .inr (ci, (fs.map (am_v ρ)).set kf (am_v ρ v)))) H1 → va_D (am_A b0) ((am_cw κ ρ w).set a (ρ a, .inr (ci, (fs.map (am_v ρ)).set kf (am_v ρ v)))) → va_S (am_A b0) s.heap H1 locs1 → W p l e R s m args below meth c H1 locs1 cells slots Q (F0 m (pc + 3) Ls (st1.map (am_v ρ))) := fun H1 locs1 p1 p2 p3 => K.put h2 (by simp [am_szc]) (by rw [e2]; exact p1) (by rw [e2]; exact p2) p3 hl
    cases fin with
    | false => exact va_put hx hb hts (am_lay g1) (am_ty ci) (fun j hj => am_tyd g1 hj) hnm hown hK hP hD hS a (am_cw_get h2) (am_cl g1) kf g2 (hts _ g3) (fun _ q => q) hty.2 hty.1 hf.1 hf.2 (by rw [List.length_map]; exact h5) hd kk
    | true =>
      rcases h6 with h6 | ⟨h6, h7⟩
      · cases h6
      · exact va_putF hx hb hts (am_lay g1) (am_ty ci) (fun j hj => am_tyd g1 hj) hnm hown hK hP hD hS a (am_cw_get h2) (am_cl g1) kf g2 (hts _ g3) (fun _ q => q) hty.2 (hini h6) (by rw [t2, h7]) hty.1 hf.1 hf.2 (by rw [List.length_map]; exact h5) hd kk
  case getstatic i =>
    obtain ⟨h1, h2⟩ := am_bif h
    obtain ⟨h3, h4⟩ := am_and h1
    have h3 := Nat.eq_of_beq_eq_true h3
    have h4 := Nat.eq_of_beq_eq_true h4
    subst h4
    cases am_nx_inv h2
    cases Nat.eq_of_beq_eq_true hn
    have hown2 : s.vm.findClass RX6 = some m.cls := by rw [h3] at hown; exact hown
    exact va_getsN hx hb hZ hS hown2 (va_Nw.use rfl hN.2) (fun _ q => q) hd (K.stay hH hS hl)
  case new i =>
    obtain ⟨ci, h1, h2, h3, h4, h5, e⟩ := am_new_inv h
    cases e
    cases Nat.eq_of_beq_eq_true hn
    obtain ⟨g1, g2, g3, g4⟩ := am_newi ho h1
    have e3 : am_szc (.inr (ci, (am_ft ci).map (fun q => am_dflt q.1))) = (am_ft ci).length := by simp [am_szc]
    rw [List.length_append] at hcl
    rw [am_sz_app, e3] at hsl
    have e5 : am_sz w + (am_ft ci).length - am_sz w = (am_ft ci).length := by omega
    rw [e5] at hsl
    refine va_new (fs := (am_ft ci).map (fun q => am_dflt q.1)) hx hb hts (am_lay g1) (am_ty ci) (fun j hj => am_tyd g1 hj) hown (hts _ g2) (hts _ g3) (hts _ g4) hK hP hD hS hA (am_cl g1) (fun j hj => am_dfls g1 hj) (by simp at hcl; omega) hsl hd (fun q H1 p1 p2 p3 => ?_)
    have h9 := K.make h2 h3 h4 h5 (fun ρ1 => by simp only [am_ce, List.map_map]; congr 2; exact List.map_congr_left fun q _ => am_dfl_v ρ1 q.1) p1 p2 p3 hl
    rw [e3] at h9
    exact h9
  case newarray ty =>
    obtain ⟨n, r, rfl, h1, h2, h3, h4, h5, cc1, e, hq⟩ := am_newa_inv h
    cases e
    cases Nat.eq_of_beq_eq_true hn
    have hsm := am_small h1
    have e1 : w.length + [cc1].length - w.length = 1 := by simp
    have e2 : am_sz w + am_szc cc1 - am_sz w = am_szc cc1 := by omega
    rw [List.length_append, e1] at hcl
    rw [am_sz_app, e2] at hsl
    rcases hq with ⟨rfl, rfl⟩ | ⟨rfl, rfl⟩ | ⟨rfl, rfl⟩
    · have e3 : (List.replicate n.toNatClampNeg (0 : Int32)).length = n.toNatClampNeg := List.length_replicate
      refine va_newa (atype := .int) (a0 := ((List.replicate n.toNatClampNeg (0 : Int32)).length, .inl (fun k => (List.replicate n.toNatClampNeg (0 : Int32)).getD k 0))) hx hb (hts _ (am_inT ok_arrI)) rfl hK hP hD hS hA (fun cA => by rw [vp_cell_i]; congr 1; funext j; rw [am_repl]; rfl) (fun q => h1 (Or.inl q)) e3.symm (by rw [e3]; show _ * 4 ≤ _; omega) hcl hsl hd (fun q cA H1 k1 p1 p2 p3 => ?_)
      have e4 : cA = κ 0 := Option.some.inj ((k1.2 4 _ rfl).2.symm.trans (k1.2 0 _ rfl).2)
      subst e4
      exact K.make h2 h3 h4 h5 (fun ρ1 => rfl) p1 p2 p3 hl
    · have e3 : (List.replicate n.toNatClampNeg (0 : Int32)).length = n.toNatClampNeg := List.length_replicate
      refine va_newa (atype := .boolean) (a0 := ((List.replicate n.toNatClampNeg (0 : Int32)).length, .inl (fun k => (List.replicate n.toNatClampNeg (0 : Int32)).getD k 0))) hx hb (hts _ (am_inT ok_arrZ)) rfl hK hP hD hS hA (fun cA => by rw [vp_cell_i]; congr 1; funext j; rw [am_repl]; rfl) (fun q => h1 (Or.inl q)) e3.symm (by rw [e3]; show _ * 1 ≤ _; omega) hcl hsl hd (fun q cA H1 k1 p1 p2 p3 => ?_)
      have e4 : cA = κ 1 := Option.some.inj ((k1.2 4 _ rfl).2.symm.trans (k1.2 1 _ rfl).2)
      subst e4
      exact K.make h2 h3 h4 h5 (fun ρ1 => rfl) p1 p2 p3 hl
    · have e3 : (List.replicate n.toNatClampNeg (0 : Int64)).length = n.toNatClampNeg := List.length_replicate
      refine va_newa (atype := .long) (a0 := ((List.replicate n.toNatClampNeg (0 : Int64)).length, .inr (.inl (fun k => (List.replicate n.toNatClampNeg (0 : Int64)).getD k 0)))) hx hb (hts _ (am_inT ok_arrL)) rfl hK hP hD hS hA (fun cA => by rw [vp_cell_l]; congr 1; funext j; rw [am_replL]; rfl) (fun q => h1 (Or.inl q)) e3.symm (by rw [e3]; show _ * 8 ≤ _; omega) hcl hsl hd (fun q cA H1 k1 p1 p2 p3 => ?_)
      have e4 : cA = κ 2 := Option.some.inj ((k1.2 4 _ rfl).2.symm.trans (k1.2 2 _ rfl).2)
      subst e4
      exact K.make h2 h3 h4 h5 (fun ρ1 => rfl) p1 p2 p3 hl
  case anewarray i =>
    obtain ⟨g1, g2⟩ := am_bif h
    obtain ⟨g3, g4⟩ := am_and g1
    have g3 := Nat.eq_of_beq_eq_true g3
    have g4 := Nat.eq_of_beq_eq_true g4
    subst g4
    obtain ⟨n, r, rfl, h1, h2, h3, h4, h5, e⟩ := am_newq_inv g2
    cases e
    cases Nat.eq_of_beq_eq_true hn
    have hsm := am_small h1
    have hown2 : s.vm.findClass RX9 = some m.cls := by rw [g3] at hown; exact hown
    have e3 : (List.replicate n.toNatClampNeg (none : Option Nat)).length = n.toNatClampNeg := List.length_replicate
    have e2 : am_sz w + am_szc (.inl (.inr (.inr (List.replicate n.toNatClampNeg none)))) - am_sz w = (List.replicate n.toNatClampNeg (none : Option Nat)).length := by show am_sz w + (List.replicate n.toNatClampNeg (none : Option Nat)).length - am_sz w = _; omega
    rw [List.length_append] at hcl
    rw [am_sz_app, e2] at hsl
    refine va_newq hx hb hown2 (hts _ (am_inT ok_arrQ)) hAO hK hP hD hS hA (fun q => h1 (Or.inl q)) e3.symm (by rw [e3]; omega) (by simp at hcl; omega) hsl hd (fun q cA H1 k1 p1 p2 p3 => ?_)
    have e4 : cA = κ 3 := by
      obtain ⟨-, -, -, -, -, q1⟩ := (k1.2 4 _ rfl).2
      obtain ⟨-, -, -, -, -, q2⟩ := (k1.2 3 _ rfl).2
      exact Option.some.inj (q1.symm.trans q2)
    subst e4
    refine K.make h2 h3 h4 h5 (fun ρ1 => ?_) p1 p2 p3 hl
    simp only [am_ce, am_replQ, Option.map_none]
  case iaload =>
    obtain ⟨i, a, r, l2, rfl, h1, h2, e⟩ := am_iald_inv h
    cases e
    cases Nat.eq_of_beq_eq_true hn
    rcases am_ints_inv h1 with ⟨g1, g2⟩ | ⟨rfl, rfl⟩ | ⟨rfl, g2⟩
    · exact va_iald hx hb hK hP a 0 (am_cw_get g2) rfl h2 hd (K.stay hH hS hl)
    · exact va_ti hx hb hTr hS h2 rfl hd (K.stay hH hS hl)
    · exact va_ti hx hb (hTx _ g2) hS h2 rfl hd (K.stay hH hS hl)
  case baload =>
    obtain ⟨i, a, r, l2, rfl, h1, h2, e⟩ := am_zald_inv h
    cases e
    cases Nat.eq_of_beq_eq_true hn
    exact va_zald hx hb hK hP a 1 (am_cw_get h1) rfl h2 hd (K.stay hH hS hl)
  case laload =>
    obtain ⟨i, a, r, l2, rfl, h1, h2, e⟩ := am_lald_inv h
    cases e
    cases Nat.eq_of_beq_eq_true hn
    exact va_lald hx hb hK hP a 2 (am_cw_get h1) rfl h2 hd (K.stay hH hS hl)
  case aaload =>
    obtain ⟨i, a, r, l2, q, rfl, h1, h2, h3, e⟩ := am_aald_inv h
    cases e
    cases Nat.eq_of_beq_eq_true hn
    refine va_aldq hx hb hK hP a 3 (am_cw_get h1) rfl h2 hd ?_
    show W p l e R s m args below meth c H locs cells slots Q (F0 m (pc + 1) Ls (va_rf ((l2.getD i.toNatClampNeg none).map ρ) :: _))
    rw [h3]
    exact K.stay hH hS hl
  case iastore =>
    obtain ⟨x, i, a, r, l2, rfl, h1, h2, e⟩ := am_iast_inv h
    cases e
    cases Nat.eq_of_beq_eq_true hn
    have e2 : am_ce κ ρ (.inl (.inl (0, l2.set i.toNatClampNeg x))) = .inl (κ 0, l2.length, .inl (upd (fun k => l2.getD k 0) i.toNatClampNeg x)) := by simp only [am_ce, List.length_set, am_upd (am_inlt h2)]
    exact va_iast hx hb hK hP hD hS a 0 (am_cw_get h1) rfl h2 hd (fun H1 locs1 p1 p2 p3 => K.put h1 (by simp [am_szc]) (by rw [e2]; exact p1) (by rw [e2]; exact p2) p3 hl)
  case bastore =>
    obtain ⟨x, i, a, r, l2, rfl, h1, h2, e⟩ := am_zast_inv h
    cases e
    cases Nat.eq_of_beq_eq_true hn
    have e2 : am_ce κ ρ (.inl (.inl (1, l2.set i.toNatClampNeg (x &&& 1)))) = .inl (κ 1, l2.length, .inl (upd (fun k => l2.getD k 0) i.toNatClampNeg (x &&& 1))) := by simp only [am_ce, List.length_set, am_upd (am_inlt h2)]
    exact va_zast hx hb hK hP hD hS a 1 (am_cw_get h1) rfl h2 hd (fun H1 locs1 p1 p2 p3 => K.put h1 (by simp [am_szc]) (by rw [e2]; exact p1) (by rw [e2]; exact p2) p3 hl)
  case lastore =>
    obtain ⟨x, i, a, r, l2, rfl, h1, h2, e⟩ := am_last_inv h
    cases e
    cases Nat.eq_of_beq_eq_true hn
    have e2 : am_ce κ ρ (.inl (.inr (.inl (l2.set i.toNatClampNeg x)))) = .inl (κ 2, l2.length, .inr (.inl (vp_updL (fun k => l2.getD k 0) i.toNatClampNeg x))) := by simp only [am_ce, List.length_set, am_updL (am_inlt h2)]
    exact va_last hx hb hK hP hD hS a 2 (am_cw_get h1) rfl h2 hd (fun H1 locs1 p1 p2 p3 => K.put h1 (by simp [am_szc]) (by rw [e2]; exact p1) (by rw [e2]; exact p2) p3 hl)
  case aastore =>
    obtain ⟨v, i, a, r, l2, fs, rfl, h1, h3, h2, e⟩ := am_aast_inv h
    cases e
    cases Nat.eq_of_beq_eq_true hn
    have e2 : am_ce κ ρ (.inl (.inr (.inr (l2.set i.toNatClampNeg (some v))))) = .inl (κ 3, l2.length, .inr (.inr (.inr (.inr (va_up (fun k => (l2.getD k none).map ρ) i.toNatClampNeg (some (ρ v))))))) := by simp only [am_ce, List.length_set, am_updQ (am_inlt h2)]
    exact va_astq hx hb hK hP hD hS a 3 v 6 (am_cw_get h1) rfl (am_cw_get h3) rfl h2 hd (fun H1 locs1 p1 p2 p3 => K.put h1 (by simp [am_szc]) (by rw [e2]; exact p1) (by rw [e2]; exact p2) p3 hl)
  case arraylength =>
    obtain ⟨a, r, rfl, h1⟩ := am_alen_inv h
    cases Nat.eq_of_beq_eq_true hn
    rcases h1 with ⟨l2, h1, e⟩ | ⟨l2, h1, e⟩
    · cases e
      exact va_alen hx hb hK hP a 2 (am_cw_get h1) rfl rfl hd (K.stay hH hS hl)
    · cases e
      rcases am_ints_inv h1 with ⟨g1, g2⟩ | ⟨rfl, rfl⟩ | ⟨rfl, g2⟩
      · exact va_alen hx hb hK hP a 0 (am_cw_get g2) rfl rfl hd (K.stay hH hS hl)
      · exact va_tlen hx hb hTr hS rfl hd (K.stay hH hS hl)
      · exact va_tlen hx hb (hTx _ g2) hS rfl hd (K.stay hH hS hl)
  case ifCond q off =>
    obtain ⟨x, r, t, rfl, ht, hq⟩ := am_if_inv h
    cases Nat.eq_of_beq_eq_true hn
    have kt : am_cc q x 0 = true → W p l e R s m args below meth c H locs cells slots Q (F0 m t Ls (r.map (am_v ρ))) := by
      intro g
      rcases hq with ⟨-, e⟩ | ⟨g2, -⟩
      · cases e
        exact K.stay hH hS hl
      · rw [g] at g2; cases g2
    have kf : am_cc q x 0 = false → W p l e R s m args below meth c H locs cells slots Q (F0 m (pc + 3) Ls (r.map (am_v ρ))) := by
      intro g
      rcases hq with ⟨g2, -⟩ | ⟨-, e⟩
      · rw [g] at g2; cases g2
      · cases e
        exact K.stay hH hS hl
    cases q
    case eq => exact lv_if_eq hx hb hd ht (fun q => kt (decide_eq_true q)) (fun q => kf (decide_eq_false q))
    case ne => exact lv_if_ne hx hb hd ht (fun q => kt (decide_eq_true q)) (fun q => kf (decide_eq_false (not_not_intro q)))
    case lt => exact lv_if_lt hx hb hd ht (fun q => kt (decide_eq_true q)) (fun q => kf (decide_eq_false q))
    case ge => exact lv_if_ge hx hb hd ht (fun q => kt (decide_eq_true q)) (fun q => kf (decide_eq_false q))
    case gt => exact lv_if_gt hx hb hd ht (fun q => kt (decide_eq_true q)) (fun q => kf (decide_eq_false q))
    case le => exact lv_if_le hx hb hd ht (fun q => kt (decide_eq_true q)) (fun q => kf (decide_eq_false q))
  case if_icmp q off =>
    obtain ⟨x, y, r, t, rfl, ht, hq⟩ := am_icmp_inv h
    cases Nat.eq_of_beq_eq_true hn
    have kt : am_cc q x y = true → W p l e R s m args below meth c H locs cells slots Q (F0 m t Ls (r.map (am_v ρ))) := by
      intro g
      rcases hq with ⟨-, e⟩ | ⟨g2, -⟩
      · cases e
        exact K.stay hH hS hl
      · rw [g] at g2; cases g2
    have kf : am_cc q x y = false → W p l e R s m args below meth c H locs cells slots Q (F0 m (pc + 3) Ls (r.map (am_v ρ))) := by
      intro g
      rcases hq with ⟨g2, -⟩ | ⟨-, e⟩
      · rw [g] at g2; cases g2
      · cases e
        exact K.stay hH hS hl
    cases q
    case eq => exact lv_icmp_eq hx hb hd ht (fun q => kt (decide_eq_true q)) (fun q => kf (decide_eq_false q))
    case ne => exact lv_icmp_ne hx hb hd ht (fun q => kt (decide_eq_true q)) (fun q => kf (decide_eq_false (not_not_intro q)))
    case lt => exact lv_icmp_lt hx hb hd ht (fun q => kt (decide_eq_true q)) (fun q => kf (decide_eq_false q))
    case ge => exact lv_icmp_ge hx hb hd ht (fun q => kt (decide_eq_true q)) (fun q => kf (decide_eq_false q))
    case gt => exact lv_icmp_gt hx hb hd ht (fun q => kt (decide_eq_true q)) (fun q => kf (decide_eq_false q))
    case le => exact lv_icmp_le hx hb hd ht (fun q => kt (decide_eq_true q)) (fun q => kf (decide_eq_false q))
  case goto off =>
    obtain ⟨t, ht, e⟩ := am_jmp_inv h
    cases e
    cases Nat.eq_of_beq_eq_true hn
    exact lv_goto hx hb hd ht (K.stay hH hS hl)
  case tableswitch d lo hi offs =>
    obtain ⟨x, r, t, rfl, e, hq⟩ := am_sw_inv h
    cases e
    rcases hq with ⟨g1, g2⟩ | ⟨g1, f, g2, g3⟩
    · exact lv_tableOut hx hb hd g1 g2 (K.stay hH hS hl)
    · exact lv_tableIn hx hb hd (fun q => g1 (Or.inl q)) (fun q => g1 (Or.inr q)) g2 g3 (K.stay hH hS hl)
  case iinc i n =>
    obtain ⟨x, h1, h2, e⟩ := am_iinc_inv h
    cases e
    cases Nat.eq_of_beq_eq_true hn
    obtain ⟨j, hj⟩ := List.getElem?_of_mem (am_lv_mem (ρ := ρ) (ls := ls) (i := 0) (q := (i, .int x)) |>.mpr ⟨i, .int x, by rw [Nat.zero_add]; rfl, h1⟩)
    exact lv_iinc hx hb hd hl hj rfl (by rw [← hll]; exact h2) rfl (fun Ls1 hl1 => K.stay hH hS (am_st1_lv (v := .int (x + Int32.ofInt n)) h2 hl1))
  case iadd =>
    obtain ⟨x, y, r, rfl, e⟩ := am_ib_inv h
    cases e
    cases Nat.eq_of_beq_eq_true hn
    exact lv_iadd hx hb hd (K.stay hH hS hl)
  case isub =>
    obtain ⟨x, y, r, rfl, e⟩ := am_ib_inv h
    cases e
    cases Nat.eq_of_beq_eq_true hn
    exact lv_isub hx hb hd (K.stay hH hS hl)
  case imul =>
    obtain ⟨x, y, r, rfl, e⟩ := am_ib_inv h
    cases e
    cases Nat.eq_of_beq_eq_true hn
    exact lv_imul hx hb hd (K.stay hH hS hl)
  case iand =>
    obtain ⟨x, y, r, rfl, e⟩ := am_ib_inv h
    cases e
    cases Nat.eq_of_beq_eq_true hn
    exact lv_iand hx hb hd (K.stay hH hS hl)
  case ior =>
    obtain ⟨x, y, r, rfl, e⟩ := am_ib_inv h
    cases e
    cases Nat.eq_of_beq_eq_true hn
    exact lv_ior hx hb hd (K.stay hH hS hl)
  case ixor =>
    obtain ⟨x, y, r, rfl, e⟩ := am_ib_inv h
    cases e
    cases Nat.eq_of_beq_eq_true hn
    exact lv_ixor hx hb hd (K.stay hH hS hl)
  case ishl =>
    obtain ⟨x, y, r, rfl, e⟩ := am_ib_inv h
    cases e
    cases Nat.eq_of_beq_eq_true hn
    exact lv_ishl hx hb hd (K.stay hH hS hl)
  case ishr =>
    obtain ⟨x, y, r, rfl, e⟩ := am_ib_inv h
    cases e
    cases Nat.eq_of_beq_eq_true hn
    exact lv_ishr hx hb hd (K.stay hH hS hl)
  case iushr =>
    obtain ⟨x, y, r, rfl, e⟩ := am_ib_inv h
    cases e
    cases Nat.eq_of_beq_eq_true hn
    exact lv_iushr hx hb hd rfl (K.stay hH hS hl)
  case idiv =>
    obtain ⟨x, y, r, rfl, h1, e⟩ := am_idv_inv h
    cases e
    cases Nat.eq_of_beq_eq_true hn
    exact lv_idiv hx hb hd h1 (K.stay hH hS hl)
  case irem =>
    obtain ⟨x, y, r, rfl, h1, e⟩ := am_idv_inv h
    cases e
    cases Nat.eq_of_beq_eq_true hn
    exact lv_irem hx hb hd h1 (K.stay hH hS hl)
  case ladd =>
    obtain ⟨x, y, r, rfl, e⟩ := am_lb_inv h
    cases e
    cases Nat.eq_of_beq_eq_true hn
    exact lv_ladd hx hb hd (K.stay hH hS hl)
  case lsub =>
    obtain ⟨x, y, r, rfl, e⟩ := am_lb_inv h
    cases e
    cases Nat.eq_of_beq_eq_true hn
    exact lv_lsub hx hb hd (K.stay hH hS hl)
  case lmul =>
    obtain ⟨x, y, r, rfl, e⟩ := am_lb_inv h
    cases e
    cases Nat.eq_of_beq_eq_true hn
    exact lv_lmul hx hb hd (K.stay hH hS hl)
  case land =>
    obtain ⟨x, y, r, rfl, e⟩ := am_lb_inv h
    cases e
    cases Nat.eq_of_beq_eq_true hn
    exact lv_land hx hb hd (K.stay hH hS hl)
  case lor =>
    obtain ⟨x, y, r, rfl, e⟩ := am_lb_inv h
    cases e
    cases Nat.eq_of_beq_eq_true hn
    exact lv_lor hx hb hd (K.stay hH hS hl)
  case lxor =>
    obtain ⟨x, y, r, rfl, e⟩ := am_lb_inv h
    cases e
    cases Nat.eq_of_beq_eq_true hn
    exact lv_lxor hx hb hd (K.stay hH hS hl)
  case ldiv =>
    obtain ⟨x, y, r, rfl, h1, e⟩ := am_ldv_inv h
    cases e
    cases Nat.eq_of_beq_eq_true hn
    exact lv_ldiv hx hb hd h1 (K.stay hH hS hl)
  case lrem =>
    obtain ⟨x, y, r, rfl, h1, e⟩ := am_ldv_inv h
    cases e
    cases Nat.eq_of_beq_eq_true hn
    exact lv_lrem hx hb hd h1 (K.stay hH hS hl)
  case lshl =>
    obtain ⟨x, y, r, rfl, e⟩ := am_lsh_inv h
    cases e
    cases Nat.eq_of_beq_eq_true hn
    exact lv_lshl hx hb hd rfl (K.stay hH hS hl)
  case lshr =>
    obtain ⟨x, y, r, rfl, e⟩ := am_lsh_inv h
    cases e
    cases Nat.eq_of_beq_eq_true hn
    exact lv_lshr hx hb hd rfl (K.stay hH hS hl)
  case lushr =>
    obtain ⟨x, y, r, rfl, e⟩ := am_lsh_inv h
    cases e
    cases Nat.eq_of_beq_eq_true hn
    exact lv_lushr hx hb hd rfl (K.stay hH hS hl)
  case lcmp =>
    obtain ⟨x, y, r, rfl, e⟩ := am_lcmp_inv h
    cases e
    cases Nat.eq_of_beq_eq_true hn
    exact W.lcmp hx hb hd (K.stay hH hS hl)
  case i2l =>
    obtain ⟨x, r, rfl, e⟩ := am_i2l_inv h
    cases e
    cases Nat.eq_of_beq_eq_true hn
    exact lv_i2l hx hb hd rfl (K.stay hH hS hl)
  case l2i =>
    obtain ⟨x, r, rfl, e⟩ := am_l2i_inv h
    cases e
    cases Nat.eq_of_beq_eq_true hn
    exact lv_l2i hx hb hd rfl (K.stay hH hS hl)
  case dup =>
    obtain ⟨v, r, rfl, h1, e⟩ := am_dup_inv h
    cases e
    cases Nat.eq_of_beq_eq_true hn
    exact lv_dup hx hb hd (by rw [am_cat]; exact h1) (K.stay hH hS hl)
  case dup2 =>
    rcases am_dup2_inv h with ⟨v, r, rfl, h1, e⟩ | ⟨v, u, r, rfl, h1, h2, e⟩
    · cases e
      cases Nat.eq_of_beq_eq_true hn
      exact lv_dup2_2 hx hb hd (by rw [am_cat]; exact h1) (K.stay hH hS hl)
    · cases e
      cases Nat.eq_of_beq_eq_true hn
      exact lv_dup2_11 hx hb hd (by rw [am_cat]; exact h1) (by rw [am_cat]; exact h2) (K.stay hH hS hl)
  case pop =>
    obtain ⟨v, r, rfl, h1, e⟩ := am_pop_inv h
    cases e
    cases Nat.eq_of_beq_eq_true hn
    exact lv_pop hx hb hd (by rw [am_cat]; exact h1) (K.stay hH hS hl)
  case pop2 =>
    obtain ⟨v, r, rfl, h1, e⟩ := am_pop2_inv h
    cases e
    cases Nat.eq_of_beq_eq_true hn
    exact lv_pop2_2 hx hb hd (by rw [am_cat]; exact h1) (K.stay hH hS hl)
  case invokestatic i =>
    obtain ⟨kd, z, n, hf, hq⟩ := am_call_inv h
    cases Nat.eq_of_beq_eq_true hn
    rcases hq with ⟨g1, g2⟩ | ⟨rfl, g1, a, r, rfl, g2, e⟩ | ⟨q1, q2, q3, q4, q5, e⟩ | ⟨q1, q2, q3, a, r, fs, q4, q5, q6, e⟩
    · rcases am_jdk_inv g2 with ⟨rfl, g3⟩ | ⟨rfl, g3⟩ | ⟨rfl, g3⟩
      · obtain ⟨n1, dp, a, sp, b, r, f, g, rfl, h1, h2, h3, h4, h5, h6, h7, h8, e⟩ := am_copy_inv g3
        cases e
        have w2 := am_and ok_cpy2
        have w3 := am_and w2.2
        have e2 : am_ce κ ρ (.inl (.inl (0, am_cpy f g sp.toNatClampNeg dp.toNatClampNeg n1.toNatClampNeg))) = .inl (κ 0, g.length, .inl (va_cpy (fun k => f.getD k 0) (fun k => g.getD k 0) sp.toNatClampNeg dp.toNatClampNeg n1.toNatClampNeg)) := by simp only [am_ce, am_cpy_len h6 h7, am_cpyf h6 h7]
        exact va_copyi (ty := .int) hx hb (hml.trans hl.1.symm) hown (hts _ (am_cpyw ho hf)) (hts _ (am_inT w2.1)) (hts _ (am_inT w3.1)) (hts _ (am_inT w3.2)) hK hP hD hS b a 0 0 (am_cw_get h2) (am_cw_get h1) rfl rfl rfl h5 h4 h3 h6 h7 (fun i hi => rfl) hRf (by rw [am_cats]; have e9 : nativeFrameWords "java/lang/System" "arraycopy" 5 = 7 := (by decide +kernel); omega) hd (fun H1 locs1 p1 p2 p3 => K.put h1 (by simp [am_szc, am_cpy_len h6 h7]) (by rw [e2]; exact p1) (by rw [e2]; exact p2) p3 hl)
      · obtain ⟨x, y, r, rfl, h8, e⟩ := am_mx_inv g3
        cases e
        have w2 := am_and ok_mm8
        have w3 := am_and w2.2
        exact va_mmax hx hb (hml.trans hl.1.symm) hown (hts _ (am_mmw8 ho hf)) (hts _ (am_inT w2.1)) (hts _ (am_inT w3.1)) (hts _ (am_inT w3.2)) hRf (by rw [am_cats]; omega) (by omega) (by omega) hd (K.stay hH hS hl)
      · obtain ⟨x, y, r, rfl, h8, e⟩ := am_mn_inv g3
        cases e
        have w2 := am_and ok_mm9
        have w3 := am_and w2.2
        exact va_mmin hx hb (hml.trans hl.1.symm) hown (hts _ (am_mmw9 ho hf)) (hts _ (am_inT w2.1)) (hts _ (am_inT w3.1)) (hts _ (am_inT w3.2)) hRf (by rw [am_cats]; omega) (by omega) (by omega) hd (K.stay hH hS hl)
    · cases g1
    · cases e
    · cases e
  case invokespecial i =>
    obtain ⟨kd, z, n, hf, hq⟩ := am_call_inv h
    cases Nat.eq_of_beq_eq_true hn
    rcases hq with ⟨g1, g2⟩ | ⟨rfl, g1, a, r, rfl, g2, e⟩ | ⟨q1, q2, q3, q4, q5, e⟩ | ⟨q1, q2, q3, a, r, fs, q4, q5, q6, e⟩
    · cases g1
    · cases e
      have w2 := am_and ok_obj2
      exact W.objInit hx hb hown (hts _ (am_objw ho hf)) (hts _ (am_inT w2.1)) (hts _ (am_inT w2.2)) rfl (hl.1.trans hml.symm) rfl hd hRf (by have e9 := lv_room (m := m) (pc := pc) (ls := Ls) (rest := (Value.ref a :: st1).map (am_v ρ)) (st := st1.map (am_v ρ)) (by rw [am_cats]; exact g2); omega) (K.stay hH hS hl)
    · cases e
    · cases e
  case invokevirtual i =>
    obtain ⟨kd, z, n, hf, hq⟩ := am_call_inv h
    cases Nat.eq_of_beq_eq_true hn
    rcases hq with ⟨g1, g2⟩ | ⟨rfl, g1, a, r, rfl, g2, e⟩ | ⟨q1, q2, q3, q4, q5, e⟩ | ⟨q1, q2, q3, a, r, fs, q4, q5, q6, e⟩
    · cases g1
    · cases g1
    · cases e
    · cases e
  case ireturn =>
    obtain ⟨-, g⟩ := am_bif h
    rcases am_ret_inv g with ⟨-, -, e⟩ | ⟨x, -, -, e⟩ | ⟨x, -, -, -, e⟩ | ⟨x, -, -, e⟩ <;> cases e
  case lreturn =>
    obtain ⟨-, g⟩ := am_bif h
    rcases am_ret_inv g with ⟨-, -, e⟩ | ⟨x, -, -, e⟩ | ⟨x, -, -, -, e⟩ | ⟨x, -, -, e⟩ <;> cases e
  case return_ =>
    obtain ⟨-, g⟩ := am_bif h
    rcases am_ret_inv g with ⟨-, -, e⟩ | ⟨x, -, -, e⟩ | ⟨x, -, -, -, e⟩ | ⟨x, -, -, e⟩ <;> cases e
  all_goals exact absurd h (by intro q; cases q)
end AMT
