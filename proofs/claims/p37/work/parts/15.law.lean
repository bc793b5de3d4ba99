noncomputable def R_law : String := "SevenLeaguesLaw"
noncomputable def lw_P (b : Addr) (xs : List Int32) (args : Array Value) (s : State) : Prop := args = #[.ref b] ∧ s.IntsAt b xs ∧ xs.length ≤ 384 ∧ (Jvm.Cond.and given_1 narrow_1).before args s = true
noncomputable def lw_Q (_ : Array Value) (s : State) (o : Outcome) (t : State) : Prop := o = .returned (some (.int 1)) ∧ Framed s o t [] 600000 7302249
noncomputable def lw_Z (below : List Frame) (a : Array Value) (s : State) : State → Prop := fun t => ∃ o, t.status = .running ∧ Ended t below o ∧ lw_Q a s o t
/-- the law's own end, with 1 on the stack, nothing written that was there before, its room as the claim has it -/
theorem lw_ret {p : Program} {l : Launch} {e : Env} {s : State} {m : MethodId} {below : List Frame} {meth : Method} {c : Code} {b : Nat} (hx : p.tables.exec = Jvm.exec) (hb : c.code = code) (hr : meth.sig.returnType = ret) (hlocks : meth.locks = false) {pc : Nat} {H : Heap} {ls : Array Slot} (hdg : decode code pc = .ok (.ireturn, 1)) : W p l e room_1 s m #[Value.ref b] below meth c H [] 600000 7302249 (lw_Z below #[Value.ref b] s) (F0 m pc ls [.int 1]) := by
  intro T hT X
  obtain ⟨fs, hret, hrun, hended, hW, hframe⟩ := X.leave (v := some (.int 1)) (hlocks := hlocks) (fun h => by rw [hr] at h; cases h)
  have hmeth' : T.vm.method? m = some meth := X.method'
  refine ⟨T.setFrames fs, ?_, .returned (some (.int 1)), hrun, hended, rfl, ⟨_, rfl⟩, hW, hframe⟩
  jvm_step X.here [X.here.top, hx, hb, hdg, hmeth', hr, ret, narrow_b1]
  (try refine ⟨rfl, ?_⟩); (try refine ⟨rfl, ?_⟩)
  first | (intro acts; rw [hret _ acts rfl rfl rfl]) | rw [hret _ _ rfl rfl rfl]
  exact Steps.refl _
/-- what holds at the law's entry: the machine, the code, the tables' words (any of lw_tbl by 'hts w (by decide +kernel)'), the script of L ints xs at the cell b, what the Statement gives of the start (any of its parts by flat_of_before) -/
noncomputable def lw_At (p : Program) (s : State) (m : MethodId) (meth : Method) (c : Code) (b L : Nat) (xs : Nat → Int32) : Prop :=
  p.tables.exec = Jvm.exec ∧ c.code = code ∧ meth.sig.returnType = ret ∧ c.maxLocals = 4 ∧ s.vm.findClass R_law = some m.cls ∧ (∀ w ∈ lw_tbl, w.before #[Value.ref b] s = true) ∧ va_X b L xs s s.heap ∧ b < s.heap.size ∧ meth.locks = false ∧ (Jvm.Cond.and given_1 narrow_1).before #[Value.ref b] s = true
/-! ===== the start ===== -/
set_option maxRecDepth 100000 in
theorem ok_inst : (List.range 11).all (fun c => am_in (.instantiable (am_cn c) (am_ft c).length)) = true := by decide +kernel
theorem am_instw {ci : Nat} (h : ci < 11) : Cond.instantiable (am_cn ci) (am_ft ci).length ∈ am_T := am_inT (List.all_eq_true.mp ok_inst ci (List.mem_range.mpr h))
set_option maxRecDepth 100000 in
theorem ok_nest : (List.range 16).all (fun c => (am_invT c).all (fun q => !(Nat.ble 3 q.2.1 && Nat.ble q.2.1 5) || decide (Cond.methodLinkNest (am_cn c) q.1 (am_y q.2.2.1) RX9 ∈ lw_tbl))) = true := by decide +kernel
set_option maxRecDepth 100000 in
theorem ok_nestF : (decide (Cond.fieldLinkNest RX6 108 RX9 "ROOT" "[I" RX9 ∈ lw_tbl) && (decide (Cond.laysStatic RX9 "ROOT" "[I" ∈ lw_tbl) && (decide (Cond.initialized RX9 ∈ lw_tbl) && decide (Cond.arrayOver (.object RX6) ∈ lw_tbl)))) = true := by decide +kernel
theorem am_nestw {oc idx kd z n : Nat} (ho : oc < 16) (h : am_find (am_invT oc) idx = some (kd, z, n)) (h3 : 3 ≤ kd) (h5 : kd ≤ 5) : Cond.methodLinkNest (am_cn oc) idx (am_y z) RX9 ∈ lw_tbl := by
  have h1 := List.all_eq_true.mp (List.all_eq_true.mp ok_nest oc (List.mem_range.mpr ho)) _ (am_find_mem h)
  refine of_decide_eq_true (am_or h1 ?_)
  show (!(Nat.ble 3 kd && Nat.ble kd 5)) = false
  rw [Nat.ble_eq_true_of_le h3, Nat.ble_eq_true_of_le h5]
  rfl
noncomputable def am_goal (N : Nat) : Prop := ∀ X : List Int32, X.length ≤ N → ∃ n w', am_run (some X) n 60 193 (0, am_entry 193 [.ref (am_B + 1)], []) [] = some (some (.int 1), w') ∧ w'.length ≤ 600000 ∧ am_sz w' ≤ 7302249
set_option maxRecDepth 100000 in
theorem am_rootw : (List.range 26).all (fun j => decide (Cond.eq (.elem (.static "SevenLeagues" "ROOT" "[I") (.int (Int32.ofNat j))) (.int (am_root.getD j 0)) ∈ flatC (Jvm.Cond.and given_1 narrow_1))) = true := by decide +kernel
set_option maxHeartbeats 4000000 in
set_option maxRecDepth 100000 in
theorem whole_start_of (hg : am_goal 384) {p : Program} {e : Env} {s : State} {m : MethodId} {below : List Frame} {meth : Method} {c : Code} (l : Launch) {b L : Nat} {xs : Nat → Int32} (hL : L ≤ 384) (C0 : lw_At p s m meth c b L xs) : W p l e room_1 s m #[Value.ref b] below meth c s.heap [] 0 0 (lw_Z below #[Value.ref b] s) (entryFrame m ([Value.ref b] : List Value).toArray 4) := by
  obtain ⟨hx, hb, hr, hml, hown, hts, hX, hbl, hlocks, hgv⟩ := id C0
  have hXl : ((List.range L).map xs).length = L := by rw [List.length_map, List.length_range]
  obtain ⟨n, w', hrun, hw1, hw2⟩ := hg ((List.range L).map xs) (by rw [hXl]; exact hL)
  have htsT : ∀ w ∈ am_T, w.before #[Value.ref b] s = true := fun w hw => hts w (List.mem_filter.mp hw).1
  have hcl : ∀ ci, ∃ q : ClassId × (Nat → Nat), ci < 11 → u_Kn s (am_cn ci) (am_TT ci) (am_ft ci).length q.1 q.2 := by
    intro ci
    by_cases h : ci < 11
    · obtain ⟨cC, iS, hK⟩ := u_known (n := (am_ft ci).length) htsT (am_lay h) (htsT _ (am_instw h))
      exact ⟨(cC, iS), fun _ => hK⟩
    · exact ⟨(0, fun _ => 0), fun q => absurd q h⟩
  obtain ⟨D, hDK⟩ : ∃ D : va_G, ∀ ci, ci < 11 → u_Kn s (am_cn ci) (am_TT ci) (am_ft ci).length (D.1 ci) (D.2 ci) := ⟨(fun ci => (Classical.choose (hcl ci)).1, fun ci => (Classical.choose (hcl ci)).2), fun ci h => Classical.choose_spec (hcl ci) h⟩
  have nf := am_and ok_nestF
  have nf2 := am_and nf.2
  have nf3 := am_and nf2.2
  have hAO : va_AO RX6 s := va_AO.of (hts _ (of_decide_eq_true nf3.2))
  obtain ⟨a0, k0, c0, ha0, hb0, hc0⟩ := Cond.arrayClass_spec (htsT _ (am_inT ok_arrI))
  obtain ⟨a1, k1, c1, ha1, hb1, hc1⟩ := Cond.arrayClass_spec (htsT _ (am_inT ok_arrZ))
  obtain ⟨a2, k2, c2, ha2, hb2, hc2⟩ := Cond.arrayClass_spec (htsT _ (am_inT ok_arrL))
  obtain ⟨c3, a3, k3, ha3, -, hb3, hc3, hd3⟩ := Cond.arrayOver_spec hAO
  obtain ⟨κ, hκ⟩ : ∃ κ : Nat → ClassId, κ 0 = a0 ∧ κ 1 = a1 ∧ κ 2 = a2 ∧ κ 3 = a3 := ⟨fun i => if i = 0 then a0 else if i = 1 then a1 else if i = 2 then a2 else a3, rfl, rfl, rfl, rfl⟩
  obtain ⟨rfl, rfl, rfl, rfl⟩ := hκ
  have hK : va_K D vwCl (am_tys κ) s := by
    refine ⟨fun ci q hq => ?_, fun k q hq => ?_⟩
    · have hlt : ci < 11 := (List.getElem?_eq_some_iff.mp hq).1
      have := (am_cl hlt).symm.trans hq
      cases this
      exact hDK ci hlt
    · match k, hq with
      | 0, hq => cases hq; exact ⟨fun n z => ⟨fun k h => (by cases h), k0, hb0, c0, hc0⟩, ha0⟩
      | 1, hq => cases hq; exact ⟨fun n z => ⟨fun k h => (by cases h), k1, hb1, c1, hc1⟩, ha1⟩
      | 2, hq => cases hq; exact ⟨fun n z => ⟨fun k h => (by cases h), k2, hb2, c2, hc2⟩, ha2⟩
      | 3, hq => cases hq; exact ⟨fun n z => ⟨fun k h => (by cases h), k3, hb3, c3, hc3⟩, k3, c3, hb3, hc3, ha3, hd3⟩
      | k + 4, hq => simp [am_tys] at hq
  have hA : ∀ a : Nat, a < s.heap.size → ¬ am_A s.heap.size a := fun a h q => absurd h (Nat.not_lt.mpr q)
  have hfl := flat_of_before _ hgv
  obtain ⟨rt, hrt, hTr⟩ := va_Tof (s := s) (args := #[Value.ref b]) (tm := .static "SevenLeagues" "ROOT" "[I") (ty := .int) (N := 26) (f := fun j => .int (am_root.getD j 0)) (A := am_A s.heap.size) (by decide) (hfl _ (by decide +kernel)) (va_eqt (z := 26) (hfl _ (by decide +kernel))) (fun j hj => va_eqt (hfl _ (of_decide_eq_true (List.all_eq_true.mp am_rootw j (List.mem_range.mpr hj))))) hA
  have hZ : va_Z RX9 "ROOT" "[I" (.ref rt) (am_A s.heap.size) s s.heap := va_Zref (hts _ (of_decide_eq_true nf2.1)) (hts _ (of_decide_eq_true nf3.1)) hrt hA
  have hTx : va_T .int b ((List.range L).map xs).length (fun j => .int (((List.range L).map xs).getD j 0)) (am_A s.heap.size) s s.heap := by
    obtain ⟨scr, h1, h2, h3, h4, h5⟩ := hX
    rw [hXl]
    refine ⟨scr, h1, h2, h3, by rw [h4]; exact Nat.le_refl _, by rw [h4], fun j hj => ?_, hA b hbl⟩
    rw [h5 j hj]
    show some (Value.int (xs j)) = some (Value.int (((List.range L).map xs).getD j 0))
    rw [List.getD_eq_getElem?_getD, List.getElem?_map, List.getElem?_range hj]
    rfl
  obtain ⟨ρ, hρ0, hρ1⟩ : ∃ ρ : Nat → Nat, ρ am_B = rt ∧ ρ (am_B + 1) = b := ⟨fun i => if i = am_B then rt else b, by simp, by simp⟩
  subst hρ0
  subst hρ1
  have hKn : am_Kn D κ s.heap.size (some ((List.range L).map xs)) ρ s := ⟨Nat.le_refl _, hK, ⟨fun oc ho idx kd z n q1 q2 q3 => va_Nw.of rfl (hts _ (am_nestw ho q1 q2 q3)), va_Nw.of rfl (hts _ (of_decide_eq_true nf.1))⟩, hAO, hZ, hTr, fun ys q => by cases q; exact hTx⟩
  have C : am_Cx p s m #[Value.ref (ρ (am_B + 1))] meth c 193 := ⟨hx, hb, hml, hown, htsT, fun q => by cases q⟩
  have hH : am_H D κ s.heap.size ρ [] s.heap := ⟨fun k q h => by simp [am_cw] at h, fun i j p q h => by simp [am_cw] at h, fun k q h => by simp [am_cw] at h⟩
  have hl := lv_entry ([.ref (ρ (am_B + 1))]) (n := 4) (Nat.le_of_ble_eq_true rfl)
  rw [lg_entry_eq]
  generalize (lg_sl ([.ref (ρ (am_B + 1))]) ++ List.replicate (4 - (lg_sl ([.ref (ρ (am_B + 1))])).length) Slot.unset).toArray = Ls at hl ⊢
  refine am_sim l D κ s.heap.size (some ((List.range L).map xs)) n 60 193 0 (am_entry 193 [.ref (am_B + 1)]) [] [] (some (.int 1)) w' (by decide) hrun (Nat.le_trans hw1 (by decide)) p e room_1 s m _ below meth c _ ρ s.heap [] Ls 0 0 C hKn (by decide) (by decide) hH va_S.rf rfl hl (by rw [Nat.zero_add]; exact Nat.le_trans (Nat.sub_le _ _) hw1) (by rw [Nat.zero_add]; exact Nat.le_trans (Nat.sub_le _ _) hw2) ?_
  intro ρ' H' locs' Ls' pc' x1 x2 x3 x4
  refine va_forget (fun q hq => x3.2.2 q hq) ?_
  refine W.widen (k := 600000) (n := 7302249) (by rw [Nat.zero_add]; exact Nat.le_trans (Nat.sub_le _ _) hw1) (by rw [Nat.zero_add]; exact Nat.le_trans (Nat.sub_le _ _) hw2) ?_
  rcases x4 with ⟨g1, g2, g3⟩ | ⟨x, g1, g2, g3⟩ | ⟨x, g1, g2, gx, g3⟩ | ⟨x, g1, g2, g3⟩
  · cases g2
  · exact lw_ret hx hb hr hlocks g3
  · exact lw_ret hx hb hr hlocks g3
  · cases g2
