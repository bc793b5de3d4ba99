/-! ===== the checker: all ways of a method, cut at told places ===== -/
/-- a cut: the place, what holds there, a measure: numbers times locals, and a number -/
noncomputable abbrev ab_N : Type := Nat × ab_T × List (Nat × Int) × Int
noncomputable def ab_prs : List (Option ab_S) → List (Option ab_S) → Option (List (ab_S × ab_S))
  | [], [] => some []
  | none :: N, _ :: P => ab_prs N P
  | some s :: N, some q :: P => (match ab_prs N P with | some l => some ((s, q) :: l) | none => none)
  | _, _ => none
noncomputable def ab_fst (i : Nat) : List (ab_S × ab_S) → Option (Nat × Int)
  | [] => none
  | (s, q) :: r => bif Nat.blt s.1 2 && Nat.beq s.2.1 i then some (q.2.1, q.2.2 - s.2.2) else ab_fst i r
noncomputable def ab_mp (E : ab_E) (l : List (ab_S × ab_S)) (i : Nat) : Nat × Int := bif Nat.beq i 0 then (0, 0) else match ab_fst i l with
  | some q => q
  | none => (0, (E.getD i (0, 0)).1)
noncomputable def ab_prok (sets : List (List Nat)) (n : Nat) (mp : Nat → Nat × Int) (sq : ab_S × ab_S) : Bool :=
  bif Nat.blt sq.1.1 2 then Nat.beq sq.1.1 sq.2.1 && (Nat.beq (mp sq.1.2.1).1 sq.2.2.1 && (decide (sq.2.2.2 = sq.1.2.2 + (mp sq.1.2.1).2) && Nat.blt sq.1.2.1 n))
  else bif Nat.beq sq.1.1 2 then Nat.beq sq.2.1 2 && Nat.beq sq.2.2.1 sq.1.2.1
  else Nat.beq sq.1.1 3 && ((Nat.beq sq.2.1 3 && Nat.beq sq.2.2.1 sq.1.2.1) || (Nat.beq sq.2.1 2 && (sets.getD sq.1.2.1 []).contains sq.2.2.1))
noncomputable def ab_enok (E EN : ab_E) (mp : Nat → Nat × Int) : Bool := Nat.ble 1 EN.length && (List.range EN.length).all (fun i => Nat.blt (mp i).1 E.length && (decide ((EN.getD i (0, 0)).1 ≤ (E.getD (mp i).1 (0, 0)).1 + (mp i).2) && decide ((E.getD (mp i).1 (0, 0)).2 + (mp i).2 ≤ (EN.getD i (0, 0)).2)))
noncomputable def ab_cov (sets : List (List Nat)) (t nd : ab_T) : Bool := match ab_prs nd.2.1 t.2.1, ab_prs (nd.2.2.1.map some) (t.2.2.1.map some), ab_prs (nd.2.2.2.map some) (t.2.2.2.map some) with
  | some l1, some l2, some l3 => (l1 ++ (l2 ++ l3)).all (ab_prok sets nd.1.length (ab_mp nd.1 (l1 ++ (l2 ++ l3)))) && ab_enok t.1 nd.1 (ab_mp nd.1 (l1 ++ (l2 ++ l3)))
  | _, _, _ => false
/-! measures -/
noncomputable def ab_lin (L : List (Option ab_S)) : List (Nat × Int) → Option (List (Nat × Int) × Int)
  | [] => some ([], 0)
  | (i, c) :: r => match L[i]?, ab_lin L r with
    | some (some s), some (l, k) => bif Nat.beq s.1 0 then some ((s.2.1, c) :: l, k + c * s.2.2) else none
    | _, _ => none
noncomputable def ab_ev (σ : List Int) : List (Nat × Int) → Int
  | [] => 0
  | (i, c) :: r => c * σ.getD i 0 + ab_ev σ r
noncomputable def ab_addl (i : Nat) (c : Int) : List (Nat × Int) → List (Nat × Int)
  | [] => [(i, c)]
  | (j, e) :: r => bif Nat.beq i j then (j, e + c) :: r else (j, e) :: ab_addl i c r
noncomputable def ab_mrg (f : Int) : List (Nat × Int) → List (Nat × Int) → List (Nat × Int)
  | [], acc => acc
  | (i, c) :: r, acc => ab_mrg f r (ab_addl i (f * c) acc)
noncomputable def ab_ub (E : ab_E) : List (Nat × Int) → Int
  | [] => 0
  | (i, c) :: r => (bif decide (0 ≤ c) then c * (E.getD i (0, 0)).2 else c * (E.getD i (0, 0)).1) + ab_ub E r
noncomputable def ab_lb (E : ab_E) : List (Nat × Int) → Int
  | [] => 0
  | (i, c) :: r => (bif decide (0 ≤ c) then c * (E.getD i (0, 0)).1 else c * (E.getD i (0, 0)).2) + ab_lb E r
noncomputable def ab_ids (n : Nat) (l : List (Nat × Int)) : Bool := l.all (fun q => Nat.blt q.1 n)
noncomputable def ab_dec (t : ab_T) (ms : List (Nat × Int)) (k : Int) (l0 : List (Nat × Int)) (k0 : Int) : Bool := match ab_lin t.2.1 ms with
  | some (l, k1) => ab_ids t.1.length (ab_mrg (-1) l0 (ab_mrg 1 l [])) && decide (ab_ub t.1 (ab_mrg (-1) l0 (ab_mrg 1 l [])) + (k + k1) - k0 ≤ -1)
  | none => false
noncomputable def ab_retok (sets : List (List Nat)) (rb : Nat) (ps : List (Option ab_F × List ab_F)) (ins : Instr) (t : ab_T) : Bool :=
  (match ins, rb, t.2.2.1 with
    | .return_, 0, [] => true
    | .ireturn, 1, [s] => Nat.beq s.1 0
    | .ireturn, 2, [s] => Nat.beq s.1 0 && (decide (0 ≤ (ab_iv t.1 s).1) && decide ((ab_iv t.1 s).2 ≤ 1))
    | .lreturn, 3, [s] => Nat.beq s.1 1
    | _, _, _ => false) && ps.any (fun o => (match o.1, t.2.2.1 with
      | none, [] => true
      | some ft, [s] => ab_is sets t.1 s ft
      | _, _ => false) && ab_isL sets t.1 t.2.2.2 o.2)
noncomputable def ab_isret (ins : Instr) : Bool := match ins with
  | .return_ | .ireturn | .lreturn => true
  | _ => false
noncomputable def ab_run (T : List ab_C) (sets : List (List Nat)) (wr : ab_wT) (S : Nat → List ab_M) (k : Nat) (ps : List (Option ab_F × List ab_F)) (nds : List ab_N) (l0 : List (Nat × Int)) (k0 : Int) (mc : List (Nat × (ab_T → ab_R))) : Nat → Bool → Nat → ab_T → Bool
  | 0, _, _, _ => false
  | n + 1, go, pc, t => bif !go && nds.any (fun nd => Nat.beq nd.1 pc) then nds.any (fun nd => Nat.beq nd.1 pc && (ab_cov sets t nd.2.1 && ab_dec t nd.2.2.1 nd.2.2.2 l0 k0))
    else match am_find mc pc with
    | some f => (match f t with
      | none => false
      | some L => L.all (fun q => ab_run T sets wr S k ps nds l0 k0 mc n false q.1 q.2))
    | none => match am_find (am_code k) pc with
      | none => false
      | some (ins, _) => bif ab_isret ins then ab_retok sets (am_mi k).2.2.1 ps ins t else match ab_ins T sets wr S k (am_mi k).1 ins pc t with
        | none => false
        | some L => L.all (fun q => ab_run T sets wr S k ps nds l0 k0 mc n false q.1 q.2)
noncomputable def ab_ent : ab_E → List ab_F → ab_E × List (Option ab_S) × List ab_S
  | E, [] => (E, [], [])
  | E, t :: ts => ((ab_ent (ab_of E t).1 ts).1, (bif Nat.beq t.1 1 then [some (ab_of E t).2, none] else [some (ab_of E t).2]) ++ (ab_ent (ab_of E t).1 ts).2.1, (ab_of E t).2 :: (ab_ent (ab_of E t).1 ts).2.2)
noncomputable def ab_big : Int := 1000000000000000000000000
noncomputable def ab_chk (T : List ab_C) (sets : List (List Nat)) (wr : ab_wT) (S : Nat → List ab_M) (k : Nat) (m : ab_M) (nds : List ab_N) (mc : List (Nat × (ab_T → ab_R))) (fuel : Nat) : Bool :=
  Nat.ble (ab_ent [(0, 0)] m.1).2.1.length (am_ml k) && (ab_run T sets wr S k m.2 nds [] ab_big mc fuel false 0 ((ab_ent [(0, 0)] m.1).1, (ab_ent [(0, 0)] m.1).2.1 ++ List.replicate (am_ml k - (ab_ent [(0, 0)] m.1).2.1.length) none, [], (ab_ent [(0, 0)] m.1).2.2)
  && nds.all (fun nd => match ab_lin nd.2.1.2.1 nd.2.2.1 with
    | some (l, k1) => ab_ids nd.2.1.1.length l && (decide (0 ≤ ab_lb nd.2.1.1 l + (nd.2.2.2 + k1)) && ab_run T sets wr S k m.2 nds l (nd.2.2.2 + k1) mc fuel true nd.1 nd.2.1)
    | none => false))
/-! ===== it is right ===== -/
noncomputable def ab_cm (ls : am_L) : List (Nat × Int) → Int
  | [] => 0
  | (i, c) :: r => c * (match ls[i]? with | some (some (.int x)) => x.toInt | _ => 0) + ab_cm ls r
section ABZ
variable {sets : List (List Nat)} {σ : List Int} {E : ab_E}
theorem ab_lin_cm {L : List (Option ab_S)} {ls : am_L} (hl : ab_loc sets σ L ls) : ∀ {ms l : List (Nat × Int)} {k : Int}, ab_lin L ms = some (l, k) → ab_cm ls ms = ab_ev σ l + k
  | [], l, k, h => by cases h; rfl
  | (i, c) :: r, l, k, h => by
    unfold ab_lin at h
    split at h
    · rename_i s l2 k2 hs hr
      obtain ⟨h1, h2⟩ := am_bif h
      cases h2
      obtain ⟨v, g1, g2⟩ := hl.2 i s hs
      obtain ⟨x, rfl, -, hx⟩ := ab_sl_i g2 h1
      have ih := ab_lin_cm hl hr
      unfold ab_cm ab_ev
      rw [g1]
      simp only
      rw [ih, hx, Int.mul_add]
      omega
    · cases h
theorem ab_ev_addl (i : Nat) (c : Int) : ∀ l, ab_ev σ (ab_addl i c l) = ab_ev σ l + c * σ.getD i 0
  | [] => by simp [ab_addl, ab_ev]
  | (j, e) :: r => by
    unfold ab_addl
    cases h : Nat.beq i j with
    | true =>
      have e1 := Nat.eq_of_beq_eq_true h
      subst e1
      simp only [cond_true, ab_ev, Int.add_mul]
      omega
    | false =>
      simp only [cond_false, ab_ev, ab_ev_addl i c r]
      omega
theorem ab_ev_mrg (f : Int) : ∀ l acc, ab_ev σ (ab_mrg f l acc) = ab_ev σ acc + f * ab_ev σ l
  | [], acc => by simp [ab_mrg, ab_ev]
  | (i, c) :: r, acc => by
    rw [ab_mrg, ab_ev_mrg f r, ab_ev_addl]
    simp only [ab_ev, Int.mul_add, Int.mul_assoc]
    omega
theorem ab_ub_ev (he : ab_env E σ) : ∀ {l}, ab_ids E.length l = true → ab_ev σ l ≤ ab_ub E l
  | [], _ => Int.le_refl _
  | (i, c) :: r, h => by
    have h2 : Nat.blt i E.length = true ∧ ab_ids E.length r = true := by simpa [ab_ids] using h
    have g := he.2.2.2 i (am_blt h2.1)
    have ih := ab_ub_ev he h2.2
    unfold ab_ev ab_ub
    by_cases q : 0 ≤ c
    · rw [decide_eq_true q]
      have := Int.mul_le_mul_of_nonneg_left g.2 q
      simp only [cond_true]
      omega
    · rw [decide_eq_false q]
      have := Int.mul_le_mul_of_nonpos_left (Int.le_of_lt (Int.not_le.mp q)) g.1
      simp only [cond_false]
      omega
theorem ab_lb_ev (he : ab_env E σ) : ∀ {l}, ab_ids E.length l = true → ab_lb E l ≤ ab_ev σ l
  | [], _ => Int.le_refl _
  | (i, c) :: r, h => by
    have h2 : Nat.blt i E.length = true ∧ ab_ids E.length r = true := by simpa [ab_ids] using h
    have g := he.2.2.2 i (am_blt h2.1)
    have ih := ab_lb_ev he h2.2
    unfold ab_ev ab_lb
    by_cases q : 0 ≤ c
    · rw [decide_eq_true q]
      have := Int.mul_le_mul_of_nonneg_left g.1 q
      simp only [cond_true]
      omega
    · rw [decide_eq_false q]
      have := Int.mul_le_mul_of_nonpos_left (Int.le_of_lt (Int.not_le.mp q)) g.2
      simp only [cond_false]
      omega
theorem ab_ev_app {τ : List Int} : ∀ {l}, ab_ids σ.length l = true → ab_ev (σ ++ τ) l = ab_ev σ l
  | [], _ => rfl
  | (i, c) :: r, h => by
    have h2 : Nat.blt i σ.length = true ∧ ab_ids σ.length r = true := by simpa [ab_ids] using h
    unfold ab_ev
    rw [ab_app (am_blt h2.1), ab_ev_app h2.2]
theorem ab_prs_loc : ∀ {N P : List (Option ab_S)} {l : List (ab_S × ab_S)}, ab_prs N P = some l → N.length = P.length ∧ ∀ (i : Nat) (s : ab_S), N[i]? = some (some s) → ∃ q, P[i]? = some (some q) ∧ (s, q) ∈ l
  | [], [], l, h => ⟨rfl, fun i s hi => by simp at hi⟩
  | none :: N, _ :: P, l, h => by
    obtain ⟨h1, h2⟩ := ab_prs_loc (N := N) (P := P) h
    refine ⟨by simp [h1], fun i s hi => ?_⟩
    cases i with
    | zero => simp at hi
    | succ i => exact h2 i s (by simpa using hi)
  | some s0 :: N, some q0 :: P, l, h => by
    unfold ab_prs at h
    split at h
    · rename_i l2 hl
      cases h
      obtain ⟨h1, h2⟩ := ab_prs_loc hl
      refine ⟨by simp [h1], fun i s hi => ?_⟩
      cases i with
      | zero =>
        simp at hi
        subst hi
        exact ⟨q0, by simp, List.mem_cons_self⟩
      | succ i =>
        obtain ⟨q, g1, g2⟩ := h2 i s (by simpa using hi)
        exact ⟨q, by simpa using g1, List.mem_cons_of_mem _ g2⟩
    · cases h
  | some _ :: _, none :: _, _, h => by cases h
  | [], _ :: _, _, h => by cases h
  | none :: _, [], _, h => by cases h
  | some _ :: _, [], _, h => by cases h
theorem ab_prs_stk {σ' : List Int} : ∀ {N P : List ab_S} {l : List (ab_S × ab_S)} {st : List Value}, ab_prs (N.map some) (P.map some) = some l → (∀ s q v, (s, q) ∈ l → ab_sl sets σ q v → ab_sl sets σ' s v) → ab_stk sets σ P st → ab_stk sets σ' N st
  | [], [], _, [], _, _, _ => trivial
  | [], [], _, _ :: _, _, _, h => h.elim
  | s0 :: N, q0 :: P, l, v :: st, h, hk, hs => by
    have h' : (match ab_prs (N.map some) (P.map some) with | some l => some ((s0, q0) :: l) | none => none) = some l := h
    split at h'
    · rename_i l2 hl
      cases h'
      exact ⟨hk s0 q0 v List.mem_cons_self hs.1, ab_prs_stk hl (fun s q v hm => hk s q v (List.mem_cons_of_mem _ hm)) hs.2⟩
    · cases h'
  | _ :: _, _ :: _, _, [], _, _, h => h.elim
  | [], _ :: _, _, _, h, _, _ => by cases h
  | _ :: _, [], _, _, h, _, _ => by cases h
theorem ab_cov_γ {G : List Value} {t nd : ab_T} {ls : am_L} {st : List Value} (h : ab_cov sets t nd = true) (hg : ab_γ sets G σ t ls st) : ∃ σ', ab_γ sets G σ' nd ls st := by
  unfold ab_cov at h
  split at h
  · rename_i l1 l2 l3 p1 p2 p3
    obtain ⟨h1, h2⟩ := am_and h
    generalize hmp : ab_mp nd.1 (l1 ++ (l2 ++ l3)) = mp at h1 h2
    obtain ⟨c1, c2⟩ := am_and h2
    have he := hg.1
    let σ' := (List.range nd.1.length).map (fun i => σ.getD (mp i).1 0 + (mp i).2)
    have hlen : σ'.length = nd.1.length := by simp [σ']
    have hget : ∀ i, i < nd.1.length → σ'.getD i 0 = σ.getD (mp i).1 0 + (mp i).2 := fun i hi => by
      show ((List.range nd.1.length).map (fun i => σ.getD (mp i).1 0 + (mp i).2)).getD i 0 = _
      rw [List.getD_eq_getElem?_getD, List.getElem?_map, List.getElem?_range hi]
      rfl
    have hen : ∀ i, i < nd.1.length → (mp i).1 < t.1.length ∧ (nd.1.getD i (0, 0)).1 ≤ (t.1.getD (mp i).1 (0, 0)).1 + (mp i).2 ∧ (t.1.getD (mp i).1 (0, 0)).2 + (mp i).2 ≤ (nd.1.getD i (0, 0)).2 := fun i hi => by
      have := List.all_eq_true.mp c2 i (List.mem_range.mpr hi)
      obtain ⟨a1, a2⟩ := am_and this
      exact ⟨am_blt a1, of_decide_eq_true (am_and a2).1, of_decide_eq_true (am_and a2).2⟩
    have h1n : 1 ≤ nd.1.length := Nat.le_of_ble_eq_true c1
    have hm0 : mp 0 = (0, 0) := by rw [← hmp]; rfl
    have key : ∀ s q v, (s, q) ∈ l1 ++ (l2 ++ l3) → ab_sl sets σ q v → ab_sl sets σ' s v := by
      intro s q v hm hq
      have hp := List.all_eq_true.mp h1 _ hm
      unfold ab_prok at hp
      cases hk : Nat.blt s.1 2 with
      | true =>
        rw [hk] at hp
        simp only [cond_true] at hp
        obtain ⟨a1, a2⟩ := am_and hp
        obtain ⟨a2, a3⟩ := am_and a2
        obtain ⟨a3, a4⟩ := am_and a3
        have a1 := Nat.eq_of_beq_eq_true a1
        have a2 := Nat.eq_of_beq_eq_true a2
        have a3 := of_decide_eq_true a3
        have a4 := am_blt a4
        have hk := am_blt hk
        have e := hget s.2.1 a4
        rw [a2] at e
        rcases hq with ⟨q1, q2, x, q3, q4⟩ | ⟨q1, q2, x, q3, q4⟩ | ⟨q1, q2⟩ | ⟨q1, q2⟩
        · exact Or.inl ⟨by omega, by rw [hlen]; exact a4, x, q3, by rw [e]; omega⟩
        · exact Or.inr (Or.inl ⟨by omega, by rw [hlen]; exact a4, x, q3, by rw [e]; omega⟩)
        · omega
        · omega
      | false =>
        rw [hk] at hp
        simp only [cond_false] at hp
        cases hk2 : Nat.beq s.1 2 with
        | true =>
          rw [hk2] at hp
          simp only [cond_true] at hp
          obtain ⟨a1, a2⟩ := am_and hp
          have e := ab_sl_r hq a1
          exact Or.inr (Or.inr (Or.inl ⟨Nat.eq_of_beq_eq_true hk2, by rw [e, Nat.eq_of_beq_eq_true a2]⟩))
        | false =>
          rw [hk2] at hp
          simp only [cond_false] at hp
          obtain ⟨a1, a2⟩ := am_and hp
          refine Or.inr (Or.inr (Or.inr ⟨Nat.eq_of_beq_eq_true a1, ?_⟩))
          rcases Bool.or_eq_true _ _ |>.mp a2 with b | b
          · obtain ⟨b1, b2⟩ := am_and b
            obtain ⟨p, e, hm2⟩ := ab_sl_q hq b1
            exact ⟨p, e, by rw [← Nat.eq_of_beq_eq_true b2]; exact hm2⟩
          · obtain ⟨b1, b2⟩ := am_and b
            exact ⟨q.2.1, ab_sl_r hq b1, List.contains_iff_mem.mp b2⟩
    refine ⟨σ', ⟨hlen, by omega, ?_, fun i hi => ?_⟩, ?_, ?_, ?_⟩
    · rw [hget 0 (by omega), hm0]
      show σ.getD 0 0 + 0 = 0
      rw [he.2.2.1]
      rfl
    · obtain ⟨b1, b2, b3⟩ := hen i hi
      have g := he.2.2.2 _ b1
      rw [hget i hi]
      omega
    · obtain ⟨b1, b2⟩ := ab_prs_loc p1
      refine ⟨b1.trans hg.2.1.1, fun i s hi => ?_⟩
      obtain ⟨q, g1, g2⟩ := b2 i s hi
      obtain ⟨v, g3, g4⟩ := hg.2.1.2 i q g1
      exact ⟨v, g3, key s q v (List.mem_append_left _ g2) g4⟩
    · exact ab_prs_stk p2 (fun s q v hm => key s q v (List.mem_append_right _ (List.mem_append_left _ hm))) hg.2.2.1
    · exact ab_prs_stk p3 (fun s q v hm => key s q v (List.mem_append_right _ (List.mem_append_right _ hm))) hg.2.2.2
  · cases h
end ABZ
