/-! ===== the carrying theorem ===== -/
theorem am_arith {a b c d : Nat} (h1 : b ≤ c) (h2 : c ≤ d) : a + (c - b) + (d - c) = a + (d - b) := by omega
noncomputable def am_Sim (l : Launch) (D : va_G) (κ : Nat → ClassId) (b0 : Nat) (X : Option (List Int32)) (n : Nat) : Prop :=
  ∀ (d k pc : Nat) (ls : am_L) (st : List Value) (w : am_W) (r : Option Value) (w' : am_W), k < 194 → am_run X n d k (pc, ls, st) w = some (r, w') → w'.length ≤ am_B →
  ∀ (p : Program) (e : Env) (R : Room) (s : State) (m : MethodId) (args : Array Value) (below : List Frame) (meth : Method) (c : Code) (Q : State → Prop) (ρ : Nat → Nat) (H : Heap) (locs : List Loc) (Ls : Array Slot) (cells slots : Nat),
  am_Cx p s m args meth c k → am_Kn D κ b0 X ρ s → d + 1 ≤ R.frames → 64 * (d + 1) ≤ R.locals → am_H D κ b0 ρ w H → va_S (am_A b0) s.heap H locs → ls.length = am_ml k → lv_has Ls (am_ml k) (am_lv ρ 0 ls) → cells + (w'.length - w.length) ≤ R.cells → slots + (am_sz w' - am_sz w) ≤ R.slots →
  (∀ (ρ' : Nat → Nat) (H' : Heap) (locs' : List Loc) (Ls' : Array Slot) (pc' : Nat), am_ext w.length w'.length ρ ρ' → am_H D κ b0 ρ' w' H' → va_S (am_A b0) s.heap H' locs' → am_RetOk k pc' r → W p l e R s m args below meth c H' locs' (cells + (w'.length - w.length)) (slots + (am_sz w' - am_sz w)) Q (F0 m pc' Ls' (r.map (am_v ρ')).toList)) →
  W p l e R s m args below meth c H locs cells slots Q (F0 m pc Ls (st.map (am_v ρ)))
theorem am_args_len : ∀ (as : List Value) (ρ : Nat → Nat), (lg_sl (as.map (am_v ρ))).length = (am_args as).length
  | [], _ => rfl
  | v :: r, ρ => by
    have ih := am_args_len r ρ
    by_cases hc : v.category = 2
    · simp only [List.map_cons, lg_sl, List.flatMap_cons, am_args, am_cat, hc, if_true, List.length_append, List.length_cons] at ih ⊢
      simp only [List.length_nil]
      omega
    · simp only [List.map_cons, lg_sl, List.flatMap_cons, am_args, am_cat, hc, if_false, List.length_append, List.length_cons] at ih ⊢
      simp only [List.length_nil]
      omega
theorem am_lv_none (ρ : Nat → Nat) : ∀ (n i : Nat), am_lv ρ i (List.replicate n none) = []
  | 0, _ => rfl
  | n + 1, i => by rw [List.replicate_succ, am_lv]; exact am_lv_none ρ n (i + 1)
theorem am_lv_args (ρ : Nat → Nat) (n : Nat) : ∀ (as : List Value) (i : Nat), am_lv ρ i (am_args as ++ List.replicate n none) = lv_args i (as.map (am_v ρ))
  | [], i => am_lv_none ρ n i
  | v :: r, i => by
    by_cases hc : v.category = 2
    · rw [am_args, if_pos hc, List.map_cons, lv_args, am_cat, if_pos hc, ← am_lv_args ρ n r (i + 2)]
      rfl
    · rw [am_args, if_neg hc, List.map_cons, lv_args, am_cat, if_neg hc, ← am_lv_args ρ n r (i + 1)]
      rfl
set_option maxHeartbeats 4000000 in
set_option maxRecDepth 100000 in
theorem am_met {l : Launch} {D : va_G} {κ : Nat → ClassId} {b0 : Nat} {X : Option (List Int32)} {n : Nat} (ih : am_Sim l D κ b0 X n) {d z : Nat} {as : List Value} {w w1 : am_W} {r1 : Option Value} (hz : z < 193) (y3 : plainName (am_y z).cls = true) (ha : (am_args as).length ≤ am_ml z) (hr : am_run X n d z (0, am_entry z as, []) w = some (r1, w1)) (hB : w1.length ≤ am_B) (ρ : Nat → Nat) : Met l (am_y z) (am_ws z) (am_rm d w w1) (am_Pre D κ b0 X ρ as w) (am_Qc D κ b0 ρ w.length r1 w1) (w1.length - w.length) (am_sz w1 - am_sz w) (am_A b0) := by
  obtain ⟨y1, y2, y4, y5⟩ := am_yk (Nat.lt_succ_of_lt hz)
  refine Met.ofW (cc := am_by z) (maxL := am_ml z) (ret := am_rt (am_mi z).2.2.1) y3 rfl ?_
  intro p e s m args below meth c s₁ B hml hv
  obtain ⟨rfl, hKn, hH⟩ := hv
  have hx := B.exec
  have hb := B.bytes
  have hrt := B.returns
  have hts := atoms_spec (ws := am_ws z) B.pre
  have hown : s.vm.findClass (am_y z).cls = some m.cls := findClass_of_methodNamed B.named
  have hlocks := B.notSynchronized
  have hname : meth.name = (am_y z).name := (name_of_methodNamed B.named B.method).1
  have C : am_Cx p s m (as.map (am_v ρ)).toArray meth c z := ⟨hx, hb, hml, by rw [← y1]; exact hown, fun w hw => hts w (List.mem_cons_of_mem _ hw), fun q => hname.trans (y4 q)⟩
  have hl := lv_entry (as.map (am_v ρ)) (n := am_ml z) (by rw [am_args_len]; exact ha)
  rw [lg_entry_eq]
  generalize (lg_sl (as.map (am_v ρ)) ++ List.replicate (am_ml z - (lg_sl (as.map (am_v ρ))).length) Slot.unset).toArray = Ls at hl ⊢
  have hle : (am_entry z as).length = am_ml z := by
    rw [am_entry, List.length_append, List.length_replicate]
    show (am_args as).length + (am_ml z - (am_args as).length) = am_ml z
    omega
  have hl2 : lv_has Ls (am_ml z) (am_lv ρ 0 (am_entry z as)) := by
    rw [am_entry, am_lv_args]
    exact hl
  refine ih d z 0 (am_entry z as) [] w r1 w1 (Nat.lt_succ_of_lt hz) hr hB p e _ s m _ below meth c _ ρ s.heap [] Ls 0 0 C hKn (Nat.le_refl _) (Nat.le_refl _) hH va_S.rf hle hl2 (by rw [Nat.zero_add]; exact Nat.le_refl _) (by rw [Nat.zero_add]; exact Nat.le_refl _) ?_
  intro ρ' H' locs' Ls' pc' x1 x2 x3 x4
  rw [Nat.zero_add, Nat.zero_add]
  have hq : ∀ t : State, t.heap = H' → am_Qc D κ b0 ρ w.length r1 w1 (as.map (am_v ρ)).toArray s (.returned (r1.map (am_v ρ'))) t := fun t ht => ⟨⟨ρ', x1, rfl, by rw [ht]; exact x2⟩, x3.F ht⟩
  rcases x4 with ⟨g1, rfl, g3⟩ | ⟨x, g1, rfl, g3⟩ | ⟨x, g1, rfl, gx, g3⟩ | ⟨x, g1, rfl, g3⟩
  · rw [g1] at hrt
    exact W.vret hx hb hrt (fun t ht _ => hq t ht) x3.2.2 g3 hlocks
  · rw [g1] at hrt
    exact W.iret hx hb hrt (fun t ht _ => hq t ht) x3.2.2 g3 hlocks
  · rw [g1] at hrt
    exact W.zret hx hb hrt (by rcases gx with rfl | rfl <;> decide) (fun t ht _ => hq t ht) x3.2.2 g3 hlocks
  · rw [g1] at hrt
    exact W.lret hx hb hrt (fun t ht _ => hq t ht) x3.2.2 g3 hlocks
set_option maxHeartbeats 4000000 in
set_option maxRecDepth 100000 in
theorem am_sim (l : Launch) (D : va_G) (κ : Nat → ClassId) (b0 : Nat) (X : Option (List Int32)) : ∀ n, am_Sim l D κ b0 X n
  | 0 => fun d k pc ls st w r w' hk h hB => by cases h
  | n + 1 => by
    have ih := am_sim l D κ b0 X n
    intro d k pc ls st w r w' hk h hB p e R s m args below meth c Q ρ H locs Ls cells slots C hKn hRf hRl hH hS hll hl hcl hsl hret
    rw [am_run] at h
    split at h
    · cases h
    · rename_i ins len hf
      obtain ⟨hd, hlen⟩ := am_dec hk hf
      split at h
      · cases h
      · -- a step
        rename_i f1 w1 hi
        obtain ⟨pc1, ls1, st1⟩ := f1
        have hmo := am_mono h
        rcases am_kind hi with ⟨pc2, ls2, st2, w2, e2, g1, g2, g3⟩ | ⟨y1, y2, y3, y4, e2, y5⟩ | ⟨y1, e2, y2⟩
        · cases e2
          refine am_step1 hk C hKn (by omega) (by omega) hH hS hll hl hd hlen hi (by omega) (by omega) ?_
          intro ρ1 H1 locs1 Ls1 x1 x2 x3 x4
          have hB1 : w1.length ≤ am_B := Nat.le_trans hmo.1 hB
          refine ih d k pc1 ls1 st1 w1 r w' hk h hB p e R s m args below meth c Q ρ1 H1 locs1 Ls1 _ _ C (hKn.ext hB1 x1) hRf hRl x2 x3 (g3.trans hll) x4 (by omega) (by omega) ?_
          intro ρ2 H2 locs2 Ls2 pc3 z1 z2 z3 z4
          have e5 : cells + (w1.length - w.length) + (w'.length - w1.length) = cells + (w'.length - w.length) := by omega
          have e6 : slots + (am_sz w1 - am_sz w) + (am_sz w' - am_sz w1) = slots + (am_sz w' - am_sz w) := by omega
          rw [e5, e6]
          exact hret ρ2 H2 locs2 Ls2 pc3 (x1.trans g1 hmo.1 z1) z2 z3 z4
        · cases e2
        · cases e2
      · -- a call
        rename_i z as pc1 ls1 st1 hi
        split at h
        · cases h
        · rename_i d1
          obtain ⟨ha, h⟩ := am_bif h
          split at h
          · cases h
          · rename_i r1 w1 hr
            obtain ⟨hok, h⟩ := am_bif h
            have hm1 := am_mono hr
            have hm2 := am_mono h
            rcases am_kind hi with ⟨y1, y2, y3, y4, e2, y5⟩ | ⟨u, i, q, hu, e2, hc⟩ | ⟨y1, e2, y2⟩
            · cases e2
            · obtain ⟨kd, z2, n2, hfi, hq⟩ := am_call_inv hc
              have hB1 : w1.length ≤ am_B := Nat.le_trans hm2.1 hB
              have hcont : ∀ (rest : List Value), (pc1, ls1, st1) = (pc + 3, ls, rest) → ∀ (ρ' : Nat → Nat) (H1 : Heap) (locs1 : List Loc), am_ext w.length w1.length ρ ρ' → am_H D κ b0 ρ' w1 H1 → va_S (am_A b0) s.heap H1 locs1 → W p l e R s m args below meth c H1 locs1 (cells + (w1.length - w.length)) (slots + (am_sz w1 - am_sz w)) Q (F0 m (pc + 3) Ls ((r1.map (am_v ρ')).toList ++ rest.map (am_v ρ))) := by
                intro rest e3 ρ1 H1 locs1 x1 x2 x3
                cases e3
                have e8 : st1.map (am_v ρ1) = st1.map (am_v ρ) ∧ am_lv ρ1 0 ls = am_lv ρ 0 ls := by
                  rcases Bool.or_eq_true _ _ |>.mp hok with q | q
                  · have q := Nat.eq_of_beq_eq_true q
                    rw [q] at x1
                    rw [x1.same]
                    exact ⟨rfl, rfl⟩
                  · exact ⟨am_vs_ext hB1 x1 (am_and q).2, am_lv_ext hB1 x1 (am_and q).1⟩
                have e4 : (r1.map (am_v ρ1)).toList ++ st1.map (am_v ρ) = (r1.toList ++ st1).map (am_v ρ1) := by
                  rw [List.map_append, e8.1]
                  cases r1 <;> rfl
                rw [e4]
                refine ih (d1 + 1) k (pc + 3) ls (r1.toList ++ st1) w1 r w' hk h hB p e R s m args below meth c Q ρ1 H1 locs1 Ls _ _ C (hKn.ext hB1 x1) hRf hRl x2 x3 hll (by rw [e8.2]; exact hl) (by omega) (by omega) ?_
                intro ρ2 H2 locs2 Ls2 pc3 z1 z2 z3 z4
                have e5 : cells + (w1.length - w.length) + (w'.length - w1.length) = cells + (w'.length - w.length) := am_arith hm1.1 hm2.1
                have e6 : slots + (am_sz w1 - am_sz w) + (am_sz w' - am_sz w1) = slots + (am_sz w' - am_sz w) := am_arith hm1.2 hm2.2
                rw [e5, e6]
                exact hret ρ2 H2 locs2 Ls2 pc3 (x1.trans hm1.1 hm2.1 z1) z2 z3 z4
              rcases hq with ⟨q1, g2⟩ | ⟨q1, q2, a, r0, q3, q4, e3⟩ | ⟨n6, hm, c1, c2, c3, e3⟩ | ⟨n6, hm, c1, a, r0, fs, c2, c3, c4, e3⟩
              · rcases am_jdk_inv g2 with ⟨q2, g3⟩ | ⟨q2, g3⟩ | ⟨q2, g3⟩
                · obtain ⟨n1, dp, a, sp, b, r0, f, g, q3, h1, h2, h3, h4, h5, h6, h7, h8, e3⟩ := am_copy_inv g3
                  cases e3
                · obtain ⟨x, y, r0, q3, h8, e3⟩ := am_mx_inv g3
                  cases e3
                · obtain ⟨x, y, r0, q3, h8, e3⟩ := am_mn_inv g3
                  cases e3
              · cases e3
              · cases e3
                have hz := am_invw (am_ocl hk) hfi n6
                exact am_docall hk C hKn (by omega) (by omega) hH hS hl hu hd hlen hfi n6 hm (Or.inl ⟨c1, c2, rfl, rfl⟩) c3 (am_met ih hz.1 hz.2.2.2.2.2.2.2.2 (Nat.le_of_ble_eq_true ha) hr hB1 ρ) (by omega) (by omega) (hcont _ rfl)
              · cases e3
                have hz := am_invw (am_ocl hk) hfi n6
                exact am_docall hk C hKn (by omega) (by omega) hH hS hl hu hd hlen hfi n6 hm (Or.inr ⟨c1, a, fs, c2, c4, rfl⟩) c3 (am_met ih hz.1 hz.2.2.2.2.2.2.2.2 (Nat.le_of_ble_eq_true ha) hr hB1 ρ) (by omega) (by omega) (hcont _ rfl)
            · cases e2
      · -- a return
        rename_i v hi
        cases h
        rcases am_kind hi with ⟨y1, y2, y3, y4, e2, y5⟩ | ⟨y1, y2, y3, y4, e2, y5⟩ | ⟨v2, e2, hrt, hkd⟩
        · cases e2
        · cases e2
        · have hrr : am_RetOk k pc r ∧ st.map (am_v ρ) = (r.map (am_v ρ)).toList := by
            rcases am_ret_inv hrt with ⟨b1, rfl, b3⟩ | ⟨x, b1, rfl, b3⟩ | ⟨x, b1, rfl, bx, b3⟩ | ⟨x, b1, rfl, b3⟩
            · cases b3
              rcases hkd with ⟨rfl, b4⟩ | ⟨rfl, b4⟩ | ⟨rfl, b4⟩
              · omega
              · omega
              · cases Nat.eq_of_beq_eq_true hlen
                exact ⟨Or.inl ⟨b1, rfl, hd⟩, rfl⟩
            · cases b3
              rcases hkd with ⟨rfl, b4⟩ | ⟨rfl, b4⟩ | ⟨rfl, b4⟩
              · cases Nat.eq_of_beq_eq_true hlen
                exact ⟨Or.inr (Or.inl ⟨x, b1, rfl, hd⟩), rfl⟩
              · omega
              · omega
            · cases b3
              rcases hkd with ⟨rfl, b4⟩ | ⟨rfl, b4⟩ | ⟨rfl, b4⟩
              · cases Nat.eq_of_beq_eq_true hlen
                exact ⟨Or.inr (Or.inr (Or.inl ⟨x, b1, rfl, bx, hd⟩)), rfl⟩
              · omega
              · omega
            · cases b3
              rcases hkd with ⟨rfl, b4⟩ | ⟨rfl, b4⟩ | ⟨rfl, b4⟩
              · omega
              · cases Nat.eq_of_beq_eq_true hlen
                exact ⟨Or.inr (Or.inr (Or.inr ⟨x, b1, rfl, hd⟩)), rfl⟩
              · omega
          rw [hrr.2]
          have h9 := hret ρ H locs Ls pc am_ext.rfl' hH hS hrr.1
          rw [Nat.sub_self, Nat.sub_self] at h9
          exact h9
