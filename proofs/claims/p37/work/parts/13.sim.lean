/-! ===== a run of my machine is a run of the Statement's ===== -/
theorem am_mono {X : Option (List Int32)} : ∀ {n d k : Nat} {f : am_F} {w w' : am_W} {r : Option Value}, am_run X n d k f w = some (r, w') → w.length ≤ w'.length ∧ am_sz w ≤ am_sz w'
  | 0, _, _, _, _, _, _, h => by cases h
  | n + 1, d, k, (pc, ls, st), w, w', r, h => by
    rw [am_run] at h
    split at h
    · cases h
    · rename_i ins len hf
      split at h
      · cases h
      · rename_i f1 w1 hi
        have h1 := am_mono h
        rcases am_kind hi with ⟨pc1, ls1, st1, w2, e, g1, g2, g3⟩ | ⟨y1, y2, y3, y4, e, y5⟩ | ⟨y1, e, y2⟩
        · cases e
          exact ⟨Nat.le_trans g1 h1.1, Nat.le_trans g2 h1.2⟩
        · cases e
        · cases e
      · rename_i z as pc1 ls1 st1 hi
        split at h
        · cases h
        · obtain ⟨-, h⟩ := am_bif h
          split at h
          · cases h
          · rename_i r1 w1 hr
            obtain ⟨-, h⟩ := am_bif h
            have h1 := am_mono hr
            have h2 := am_mono h
            exact ⟨Nat.le_trans h1.1 h2.1, Nat.le_trans h1.2 h2.2⟩
      · cases h
        exact ⟨Nat.le_refl _, Nat.le_refl _⟩
noncomputable def am_RetOk (k pc : Nat) (r : Option Value) : Prop := ((am_mi k).2.2.1 = 0 ∧ r = none ∧ decode (am_by k) pc = .ok (.return_, 1)) ∨ (∃ x, (am_mi k).2.2.1 = 1 ∧ r = some (.int x) ∧ decode (am_by k) pc = .ok (.ireturn, 1)) ∨ (∃ x, (am_mi k).2.2.1 = 2 ∧ r = some (.int x) ∧ (x = 0 ∨ x = 1) ∧ decode (am_by k) pc = .ok (.ireturn, 1)) ∨ (∃ x, (am_mi k).2.2.1 = 3 ∧ r = some (.long x) ∧ decode (am_by k) pc = .ok (.lreturn, 1))
noncomputable def am_Qc (D : va_G) (κ : Nat → ClassId) (b0 : Nat) (ρ : Nat → Nat) (n : Nat) (r : Option Value) (w1 : am_W) : Array Value → State → Outcome → State → Prop := fun _ st oc t => (∃ ρ', am_ext n w1.length ρ ρ' ∧ oc = .returned (r.map (am_v ρ')) ∧ am_H D κ b0 ρ' w1 t.heap) ∧ va_F (am_A b0) st t
noncomputable def am_rm (d : Nat) (w w1 : am_W) : Room := { frames := d + 1, cells := w1.length - w.length, slots := am_sz w1 - am_sz w, locals := 64 * (d + 1) }
noncomputable def am_Pre (D : va_G) (κ : Nat → ClassId) (b0 : Nat) (X : Option (List Int32)) (ρ : Nat → Nat) (as : List Value) (w : am_W) : Array Value → State → Prop := va_Pc (as.map (am_v ρ)) (fun U => am_Kn D κ b0 X ρ U ∧ am_H D κ b0 ρ w U.heap)
theorem am_Kn.ext {D : va_G} {κ : Nat → ClassId} {b0 n n1 : Nat} {X : Option (List Int32)} {ρ ρ' : Nat → Nat} {U : State} (h : am_Kn D κ b0 X ρ U) (hB : n1 ≤ am_B) (hx : am_ext n n1 ρ ρ') : am_Kn D κ b0 X ρ' U := by
  unfold am_Kn
  rw [hx am_B (Or.inr hB), hx (am_B + 1) (Or.inr (Nat.le_trans hB (Nat.le_succ _)))]
  exact h
theorem am_Kn.call {D : va_G} {κ : Nat → ClassId} {b0 : Nat} {X : Option (List Int32)} {ρ : Nat → Nat} {U : State} (h : am_Kn D κ b0 X ρ U) (g : JFrame) (mk : MethodId) (a : Array Value) : am_Kn D κ b0 X ρ (U.calling g mk a) := by
  obtain ⟨h1, h2, h3, h4, h5, h6, h7⟩ := h
  exact ⟨h1, va_K.moved (u := U) (U := U.calling g mk a) (Vm.Alike.refl U.vm) h2, ⟨fun oc ho idx kd z n q1 q2 q3 => va_Nw.same (u := U) (U := U.calling g mk a) rfl rfl (h3.1 oc ho idx kd z n q1 q2 q3), va_Nw.same (u := U) (U := U.calling g mk a) rfl rfl h3.2⟩, va_AO.moved (u := U) (U := U.calling g mk a) (Vm.Alike.refl U.vm) h4, va_Z.moved (u := U) (U := U.calling g mk a) (Vm.Alike.refl U.vm) h5, va_T.moved (u := U) (U := U.calling g mk a) (Vm.Alike.refl U.vm) h6, fun xs q => va_T.moved (u := U) (U := U.calling g mk a) (Vm.Alike.refl U.vm) (h7 xs q)⟩
theorem am_Kn.warm {D : va_G} {κ : Nat → ClassId} {b0 : Nat} {X : Option (List Int32)} {ρ : Nat → Nat} {s U : State} {H : Heap} {locs : List Loc} (h : am_Kn D κ b0 X ρ s) (hS : va_S (am_A b0) s.heap H locs) (hU : U.heap = H) (hW : s.WarmedH U.vm) : am_Kn D κ b0 X ρ U := by
  obtain ⟨h1, h2, h3, h4, h5, h6, h7⟩ := h
  subst hU
  have hq : ∀ a : Nat, a < s.heap.size → ¬ am_A b0 a → U.heap[a]? = s.heap[a]? := hS.2.1
  exact ⟨Nat.le_trans h1 hS.1, va_K.moved hW.alike h2, ⟨fun oc ho idx kd z n q1 q2 q3 => va_Nw.warmM hW (h3.1 oc ho idx kd z n q1 q2 q3), va_Nw.warmF hW h3.2⟩, va_AO.moved hW.alike h4, va_Z.moved hW.alike (h5.kept hq), va_T.moved hW.alike (h6.kept hq), fun xs q => va_T.moved hW.alike ((h7 xs q).kept hq)⟩
set_option maxRecDepth 100000 in
theorem ok_y : (List.range 194).all (fun z => decide ((am_y z).cls = am_cn (am_oc z)) && (decide ((am_y z).cls ≠ "java/lang/invoke/MethodHandle" ∧ (am_y z).cls ≠ "java/lang/invoke/VarHandle") && ((!(am_mi z).2.2.2 || decide ((am_y z).name = "<init>")) && Nat.ble (am_ml z) 45))) = true := by decide +kernel
theorem am_codeT {z : Nat} (h : z < 193) : Cond.code (am_y z) (am_by z) (am_ml z) (am_rt (am_mi z).2.2.1) ∈ am_T := List.mem_filter.mpr ⟨ok_codew h, rfl⟩
theorem am_goodT {z : Nat} (h : z < 193) : GoodIn am_T (am_ws z) := fun w hw => by
  rcases List.mem_cons.mp hw with rfl | hw
  · exact ⟨am_codeT h, good_of_word rfl⟩
  · exact ⟨hw, good_of_word (List.mem_filter.mp hw).2⟩
theorem am_yk {z : Nat} (h : z < 194) : (am_y z).cls = am_cn (am_oc z) ∧ ((am_y z).cls ≠ "java/lang/invoke/MethodHandle" ∧ (am_y z).cls ≠ "java/lang/invoke/VarHandle") ∧ ((am_mi z).2.2.2 = true → (am_y z).name = "<init>") ∧ am_ml z ≤ 45 := by
  have h1 := List.all_eq_true.mp ok_y z (List.mem_range.mpr h)
  obtain ⟨g1, h2⟩ := am_and h1
  obtain ⟨g2, h3⟩ := am_and h2
  obtain ⟨g4, g5⟩ := am_and h3
  refine ⟨of_decide_eq_true g1, of_decide_eq_true g2, fun q => ?_, Nat.le_of_ble_eq_true g5⟩
  rw [q] at g4
  exact of_decide_eq_true g4
theorem am_or {a b : Bool} (h : (a || b) = true) (hn : a = false) : b = true := by
  subst hn
  exact h
theorem am_nbeq {a b : Nat} (h : a ≠ b) : Nat.beq a b = false := by
  cases hb : Nat.beq a b with
  | false => rfl
  | true => exact absurd (Nat.eq_of_beq_eq_true hb) h
theorem am_ybeq (a : Nat) : Nat.beq a a = true := Nat.beq_refl a
/-- the words of a call -/
theorem am_invw {oc idx kd z n : Nat} (ho : oc < 16) (h : am_find (am_invT oc) idx = some (kd, z, n)) (h6 : kd < 6) : z < 193 ∧ kd ≠ 3 ∧ (parseMethodDescriptor (am_y z).desc).map (fun d => d.parameters.length) = some n ∧ Cond.initialized (am_y z).cls ∈ am_T ∧ (kd < 3 → Cond.methodLink (am_cn oc) idx (am_y z) ∈ am_T) ∧ (kd % 3 = 0 → Cond.instanceMethod (am_y z) ∈ am_T ∧ Cond.selects (am_y z).cls (am_y z) (am_y z) ∈ am_T) ∧ (kd % 3 = 1 → Cond.static (am_y z) ∈ am_T) ∧ (kd % 3 = 2 → Cond.instanceMethod (am_y z) ∈ am_T ∧ (am_y z).name = "<init>" ∧ (am_mi z).2.2.1 = 0) ∧ plainName (am_y z).cls = true := by
  have h0 : am_invT oc = (am_invP oc).map (fun q => q.1) := of_decide_eq_true (List.all_eq_true.mp ok_invP oc (List.mem_range.mpr ho))
  have hm := am_find_mem h
  rw [h0] at hm
  obtain ⟨⟨t1, t2⟩, ht, rfl⟩ := List.mem_map.mp hm
  have h1 := List.all_eq_true.mp (ok_inv ho) _ ht
  have h2 : am_iq oc ((idx, kd, z, n), t2) = true := am_or h1 (by
    have : Nat.blt kd 6 = true := Nat.ble_eq_true_of_le h6
    show (!(Nat.blt kd 6)) = false
    rw [this]; rfl)
  obtain ⟨g1, h3⟩ := am_and h2
  obtain ⟨g2, h5⟩ := am_and h3
  obtain ⟨g4, k5⟩ := am_and h5
  obtain ⟨g5, k6⟩ := am_and k5
  obtain ⟨g6, k7⟩ := am_and k6
  obtain ⟨g7, k8⟩ := am_and k7
  obtain ⟨g8, k9⟩ := am_and k8
  obtain ⟨g9, g10⟩ := am_and k9
  refine ⟨am_blt g1, of_decide_eq_true g2, of_decide_eq_true g4, am_atT g5, fun q => ?_, fun q => ?_, fun q => ?_, fun q => ?_, g10⟩
  · refine am_atT (am_or g6 ?_)
    cases hb : Nat.ble 3 kd with
    | false => rfl
    | true => exact absurd (Nat.le_of_ble_eq_true hb) (by omega)
  · have g := am_or g7 (by show (!(Nat.beq (kd % 3) 0)) = false; rw [q]; rfl)
    exact ⟨am_atT (am_and g).1, am_atT (am_and g).2⟩
  · exact am_atT (am_or g8 (by show (!(Nat.beq (kd % 3) 1)) = false; rw [q]; rfl))
  · have g := am_or g9 (by show (!(Nat.beq (kd % 3) 2)) = false; rw [q]; rfl)
    obtain ⟨w1, w2⟩ := am_and g
    obtain ⟨w2, w3⟩ := am_and w2
    exact ⟨am_atT w1, of_decide_eq_true w2, Nat.eq_of_beq_eq_true w3⟩
set_option maxRecDepth 100000 in
theorem ok_ocV : (List.range 16).all (fun c => (am_invT c).all (fun q => !(Nat.beq q.2.1 0) || Nat.blt (am_oc q.2.2.1) 11)) = true := by decide +kernel
theorem am_ocV {oc idx z n : Nat} (ho : oc < 16) (h : am_find (am_invT oc) idx = some (0, z, n)) : am_oc z < 11 := am_blt (List.all_eq_true.mp (List.all_eq_true.mp ok_ocV oc (List.mem_range.mpr ho)) _ (am_find_mem h))
section AMR
variable {p : Program} {l : Launch} {e : Env} {R : Room} {s : State} {m : MethodId} {args : Array Value} {below : List Frame} {meth : Method} {c : Code} {Q : State → Prop}
variable {D : va_G} {κ : Nat → ClassId} {b0 : Nat} {X : Option (List Int32)} {k : Nat} {ρ : Nat → Nat} {H : Heap} {locs : List Loc} {Ls : Array Slot} {cells slots pc : Nat} {ls : am_L} {st : List Value} {w : am_W}
theorem am_after {mc ms nW : Nat} {st0 rest : List Value} {r1 : Option Value} {w1 : am_W} {a : Array Value} (hr : va_Run p l e R s m args below meth c H locs cells slots mc ms (F0 m pc Ls st0) rest (am_Qc D κ b0 ρ nW r1 w1 a) (am_A b0)) (hS : va_S (am_A b0) s.heap H locs)
    (kk : ∀ (ρ' : Nat → Nat) (H1 : Heap) (locs1 : List Loc), am_ext nW w1.length ρ ρ' → am_H D κ b0 ρ' w1 H1 → va_S (am_A b0) s.heap H1 locs1 → W p l e R s m args below meth c H1 locs1 (cells + mc) (slots + ms) Q (F0 m (pc + 3) Ls ((r1.map (am_v ρ')).toList ++ rest))) : W p l e R s m args below meth c H locs cells slots Q (F0 m pc Ls st0) := by
  intro T hT Y
  obtain ⟨v, st₀, t, T', L, h0, Y', hL, e1, e2, ⟨⟨ρ', x1, x2, x3⟩, hz, hk⟩, sg⟩ := hr T hT Y
  cases x2
  rw [h0] at hz hk
  obtain ⟨t2, a1, b1⟩ := kk ρ' T'.heap (locs ++ L) x1 (by rw [e1]; exact x3)
    ⟨Nat.le_trans hS.1 (by rw [e1]; exact hz), fun q h1 h2 => by rw [e1, hk q (Nat.lt_of_lt_of_le h1 hS.1) h2]; exact hS.2.1 q h1 h2, fun q hq => by
      rcases List.mem_append.mp hq with h | h
      · exact hS.2.2 q h
      · exact hL q h⟩ T' rfl Y'
  exact ⟨t2, sg t2 a1, b1⟩
theorem am_blind {as : List Value} : FrameBlind (am_Pre D κ b0 X ρ as w) := fun a _ g mk q => ⟨q.1, q.2.1.call g mk a, q.2.2⟩
set_option maxHeartbeats 4000000 in
set_option maxRecDepth 100000 in
theorem am_docall {d1 : Nat} (hk : k < 194) (C : am_Cx p s m args meth c k) (hKn : am_Kn D κ b0 X ρ s) (hRf : d1 + 2 ≤ R.frames) (hRl : 64 * (d1 + 2) ≤ R.locals) (hH : am_H D κ b0 ρ w H) (hS : va_S (am_A b0) s.heap H locs) {lv : List (Nat × Value)} (hl : lv_has Ls (am_ml k) lv) {ins : Instr} {len u i kd z n : Nat} {as rest : List Value} {r1 : Option Value} {w1 : am_W}
    (hu : (u = 0 ∧ ins = .invokevirtual i) ∨ (u = 1 ∧ ins = .invokestatic i) ∨ (u = 2 ∧ ins = .invokespecial i)) (hd : decode (am_by k) pc = .ok (ins, len)) (hn : am_lenok ins len = true) (hf : am_find (am_invT (am_oc k)) i = some (kd, z, n)) (h6 : kd < 6) (hm : kd % 3 = u)
    (hq : (u = 1 ∧ n ≤ st.length ∧ as = (st.take n).reverse ∧ rest = st.drop n) ∨ (u ≠ 1 ∧ ∃ a fs, st.drop n = .ref a :: rest ∧ w[a]? = some (.inr ((am_mi z).1, fs)) ∧ as = .ref a :: (st.take n).reverse)) (hw : (rest.map fun v => v.category).sum ≤ 8)
    (hM : Met l (am_y z) (am_ws z) (am_rm d1 w w1) (am_Pre D κ b0 X ρ as w) (am_Qc D κ b0 ρ w.length r1 w1) (w1.length - w.length) (am_sz w1 - am_sz w) (am_A b0)) (hcl : cells + (w1.length - w.length) ≤ R.cells) (hsl : slots + (am_sz w1 - am_sz w) ≤ R.slots)
    (kk : ∀ (ρ' : Nat → Nat) (H1 : Heap) (locs1 : List Loc), am_ext w.length w1.length ρ ρ' → am_H D κ b0 ρ' w1 H1 → va_S (am_A b0) s.heap H1 locs1 → W p l e R s m args below meth c H1 locs1 (cells + (w1.length - w.length)) (slots + (am_sz w1 - am_sz w)) Q (F0 m (pc + 3) Ls ((r1.map (am_v ρ')).toList ++ rest.map (am_v ρ)))) : W p l e R s m args below meth c H locs cells slots Q (F0 m pc Ls (st.map (am_v ρ))) := by
  obtain ⟨hx, hb, hml, hown, hts, hini⟩ := C
  have hK := hKn.2.1
  have hN := hKn.2.2.1.1
  have ho := am_ocl hk
  obtain ⟨hz, n3, hpar, hinit, hlink, hV, hSt, hI, -⟩ := am_invw ho hf h6
  obtain ⟨y1, y2, -, y5⟩ := am_yk (Nat.lt_succ_of_lt hz)
  have hR : (am_rm d1 w w1).frames + 1 ≤ R.frames ∧ 8 + (am_ml z + 11) + (am_rm d1 w w1).locals ≤ R.locals := by
    show d1 + 1 + 1 ≤ R.frames ∧ 8 + (am_ml z + 11) + 64 * (d1 + 1) ≤ R.locals
    omega
  have hwr : ((rest.map (am_v ρ)).map fun v => v.category).sum ≤ 8 := by rw [am_cats]; exact hw
  have hU : ∀ U : State, U.heap = H → s.WarmedH U.vm → am_Kn D κ b0 X ρ U ∧ am_H D κ b0 ρ w U.heap := fun U h1 h2 => ⟨hKn.warm hS h1 h2, by rw [h1]; exact hH⟩
  rcases hq with ⟨rfl, q2, rfl, rfl⟩ | ⟨q1, a, fs, q2, q3, rfl⟩
  · -- static
    rcases hu with ⟨c1, -⟩ | ⟨-, rfl⟩ | ⟨c1, -⟩
    · cases c1
    · cases Nat.eq_of_beq_eq_true hn
      have hlen : ((st.take n).reverse.map (am_v ρ)).length = n := by rw [List.length_map, List.length_reverse, List.length_take]; omega
      have hst : st.map (am_v ρ) = ((st.take n).reverse.map (am_v ρ)).reverse ++ (st.drop n).map (am_v ρ) := by rw [List.map_reverse, List.reverse_reverse, ← List.map_append, List.take_append_drop]
      have hp : PreS s H (am_Pre D κ b0 X ρ (st.take n).reverse w) ((st.take n).reverse.map (am_v ρ)) := ⟨am_blind, fun U h1 h2 => ⟨rfl, hU U h1 h2⟩⟩
      rcases (show kd = 1 ∨ kd = 4 by omega) with rfl | rfl
      · exact am_after (va_runS ⟨hx, hb, hml, hown, hts⟩ hM ⟨callB_of n hts (am_goodT hz) rfl rfl rfl (hts _ hinit) (hts _ (hlink (by omega))) ⟨y2.1, y2.2, hpar⟩ hR, hts _ (hSt rfl)⟩ hp rfl hlen hl.1 hst (lv_room hwr) hd ⟨hcl, hsl⟩) hS kk
      · exact am_after (va_runSN ⟨hx, hb, hml, hown, hts⟩ hM ⟨va_cnB n hts (am_goodT hz) rfl rfl rfl (hN _ ho i 4 z n hf (by omega) (by omega)) (hts _ hinit) ⟨y2.1, y2.2, hpar⟩ hR, hts _ (hSt rfl), trivial⟩ hp rfl hlen hl.1 hst (lv_room hwr) hd ⟨hcl, hsl⟩) hS kk
    · cases c1
  · have hnl : n < st.length := by
      rcases Nat.lt_or_ge n st.length with q | q
      · exact q
      · rw [List.drop_eq_nil_of_le q] at q2; cases q2
    have hlen : ((st.take n).reverse.map (am_v ρ)).length = n := by rw [List.length_map, List.length_reverse, List.length_take]; omega
    have hst : st.map (am_v ρ) = ((st.take n).reverse.map (am_v ρ)).reverse ++ .ref (ρ a) :: rest.map (am_v ρ) := by
      rw [List.map_reverse, List.reverse_reverse]
      have e1 : (Value.ref (ρ a) :: rest.map (am_v ρ)) = (st.drop n).map (am_v ρ) := by rw [q2]; rfl
      rw [e1, ← List.map_append, List.take_append_drop]
    have hp : PreS s H (am_Pre D κ b0 X ρ (.ref a :: (st.take n).reverse) w) (.ref (ρ a) :: (st.take n).reverse.map (am_v ρ)) := ⟨am_blind, fun U h1 h2 => ⟨rfl, hU U h1 h2⟩⟩
    rcases hu with ⟨rfl, rfl⟩ | ⟨rfl, -⟩ | ⟨rfl, rfl⟩
    · -- virtual
      cases Nat.eq_of_beq_eq_true hn
      have hkd : kd = 0 := by omega
      subst hkd
      have hci : am_oc z < 11 := am_ocV ho hf
      exact am_after (va_runV (C := (am_y z).cls) ⟨hx, hb, hml, hown, hts⟩ hM ⟨callB_of n hts (am_goodT hz) rfl rfl rfl (hts _ hinit) (hts _ (hlink (by omega))) ⟨y2.1, y2.2, hpar⟩ hR, hts _ (hV rfl).1, hts _ (hV rfl).2⟩ ⟨am_blind, by rw [y1]; exact va_recv hK hH.1 (am_cl hci) (am_cw_get q3), hp.2⟩ rfl hlen hl.1 hst (lv_room hwr) hd ⟨hcl, hsl⟩) hS kk
    · exact absurd rfl q1
    · -- special
      cases Nat.eq_of_beq_eq_true hn
      obtain ⟨i1, i2, i3⟩ := hI hm
      have hret : am_ws z = Cond.code (am_y z) (am_by z) (am_ml z) none :: am_T := by unfold am_ws; rw [i3]; rfl
      rcases (show kd = 2 ∨ kd = 5 by omega) with rfl | rfl
      · exact am_after (va_runI ⟨hx, hb, hml, hown, hts⟩ hM ⟨callB_of n hts (am_goodT hz) hret rfl rfl (hts _ hinit) (hts _ (hlink (by omega))) ⟨y2.1, y2.2, hpar⟩ hR, i2, hts _ i1⟩ hp rfl hlen hl.1 hst (lv_room hwr) hd ⟨hcl, hsl⟩) hS kk
      · exact am_after (va_runIN ⟨hx, hb, hml, hown, hts⟩ hM ⟨va_cnB n hts (am_goodT hz) hret rfl rfl (hN _ ho i 5 z n hf (by omega) (by omega)) (hts _ hinit) ⟨y2.1, y2.2, hpar⟩ hR, i2, hts _ i1⟩ hp rfl hlen hl.1 hst (lv_room hwr) hd ⟨hcl, hsl⟩) hS kk
end AMR
