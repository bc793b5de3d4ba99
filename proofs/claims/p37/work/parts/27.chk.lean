/-! ===== what the checker lets pass keeps what is told of it ===== -/
section ABQ
variable {T : List ab_C} {sets : List (List Nat)} {wr : ab_wT} {S : Nat → List ab_M} {G : List Value} {w0 : am_W} {d k : Nat} {ps : List (Option ab_F × List ab_F)} {nds : List ab_N} {l0 : List (Nat × Int)} {k0 M0 : Int} {mc : List (Nat × (ab_T → ab_R))}
noncomputable def ab_Q (T : List ab_C) (sets : List (List Nat)) (wr : ab_wT) (G : List Value) (w0 : am_W) (ps : List (Option ab_F × List ab_F)) : Option Value → am_W → Prop := fun r w' => ab_J T sets wr w0 w' ∧ ∃ o ∈ ps, ab_res sets r o.1 ∧ ab_vals sets G o.2
theorem ab_ret_s {ins : Instr} {len pc : Nat} {t : ab_T} {σ : List Int} {ls : am_L} {st : List Value} {w : am_W} (h : ab_retok sets (am_mi k).2.2.1 ps ins t = true) (hf : am_find (am_code k) pc = some (ins, len)) (hg : ab_γ sets G σ t ls st) (hJ : ab_J T sets wr w0 w) : aw none d k (ab_Q T sets wr G w0 ps) (pc, ls, st) w := by
  unfold ab_retok at h
  obtain ⟨h1, h2⟩ := am_and h
  obtain ⟨o, ho, h3⟩ := List.any_eq_true.mp h2
  obtain ⟨h4, h5⟩ := am_and h3
  have hv := ab_isL_vals h5 hg.2.2.2 hg.1
  have he := hg.1
  have hs := hg.2.2.1
  split at h1
  · rename_i e1 e2
    rw [e2] at hs h4
    cases st with
    | cons v r => exact hs.elim
    | nil =>
      refine aw_ret (v := none) hf ?_ ⟨hJ, o, ho, ?_, hv⟩
      · show (bif Nat.beq (am_mi k).2.2.1 0 then am_ret (am_mi k).2.2.1 [] else none) = some (.inr (.inr none))
        rw [e1]
        rfl
      · split at h4
        · rename_i q1 q2; rw [q1]; trivial
        · rename_i q1 q2; cases q2
        · cases h4
  · rename_i s e1 e2
    rw [e2] at hs h4
    obtain ⟨v, r, rfl, g1, g2⟩ := ab_stk_cons hs
    obtain ⟨x, rfl, l1, x1⟩ := ab_sl_i g1 h1
    cases r with
    | cons v r => exact g2.elim
    | nil =>
      refine aw_ret (v := some (.int x)) hf ?_ ⟨hJ, o, ho, ?_, hv⟩
      · show (bif Nat.beq (am_mi k).2.2.1 1 || Nat.beq (am_mi k).2.2.1 2 then am_ret (am_mi k).2.2.1 [.int x] else none) = some (.inr (.inr (some (.int x))))
        rw [e1]
        rfl
      · split at h4
        · rename_i q1 q2; cases q2
        · rename_i ft s2 q1 q2
          cases q2
          rw [q1]
          exact ab_is_vF h4 g1 he
        · cases h4
  · rename_i s e1 e2
    rw [e2] at hs h4
    obtain ⟨v, r, rfl, g1, g2⟩ := ab_stk_cons hs
    obtain ⟨c1, c2⟩ := am_and h1
    obtain ⟨x, rfl, l1, x1⟩ := ab_sl_i g1 c1
    have iv := ab_iv_of he l1 x1
    have c3 := of_decide_eq_true (am_and c2).1
    have c4 := of_decide_eq_true (am_and c2).2
    have hx : x = 0 ∨ x = 1 := by
      have : x.toInt = 0 ∨ x.toInt = 1 := by omega
      refine this.imp (fun z => ?_) (fun z => ?_)
      · exact Int32.toInt_inj.mp (by rw [z]; rfl)
      · exact Int32.toInt_inj.mp (by rw [z]; rfl)
    cases r with
    | cons v r => exact g2.elim
    | nil =>
      refine aw_ret (v := some (.int x)) hf ?_ ⟨hJ, o, ho, ?_, hv⟩
      · show (bif Nat.beq (am_mi k).2.2.1 1 || Nat.beq (am_mi k).2.2.1 2 then am_ret (am_mi k).2.2.1 [.int x] else none) = some (.inr (.inr (some (.int x))))
        rw [e1]
        show (if x = 0 ∨ x = 1 then some (Sum.inr (Sum.inr (some (Value.int x)))) else none) = (some (Sum.inr (Sum.inr (some (Value.int x)))) : Option am_R)
        rw [if_pos hx]
      · split at h4
        · rename_i q1 q2; cases q2
        · rename_i ft s2 q1 q2
          cases q2
          rw [q1]
          exact ab_is_vF h4 g1 he
        · cases h4
  · rename_i s e1 e2
    rw [e2] at hs h4
    obtain ⟨v, r, rfl, g1, g2⟩ := ab_stk_cons hs
    obtain ⟨x, rfl, l1, x1⟩ := ab_sl_l g1 h1
    cases r with
    | cons v r => exact g2.elim
    | nil =>
      refine aw_ret (v := some (.long x)) hf ?_ ⟨hJ, o, ho, ?_, hv⟩
      · show (bif Nat.beq (am_mi k).2.2.1 3 then am_ret (am_mi k).2.2.1 [.long x] else none) = some (.inr (.inr (some (.long x))))
        rw [e1]
        rfl
      · split at h4
        · rename_i q1 q2; cases q2
        · rename_i ft s2 q1 q2
          cases q2
          rw [q1]
          exact ab_is_vF h4 g1 he
        · cases h4
  · cases h1
/-- a stretch of code that is walked by hand -/
noncomputable def ab_mok (T : List ab_C) (sets : List (List Nat)) (wr : ab_wT) (d k pc : Nat) (f : ab_T → ab_R) : Prop := ∀ (G : List Value) (w0 : am_W) (Q : Option Value → am_W → Prop) (t : ab_T) (L : List (Nat × ab_T)) (σ : List Int) (ls : am_L) (st : List Value) (w : am_W), f t = some L → ab_γ sets G σ t ls st → ab_J T sets wr w0 w → (∀ q ∈ L, ∀ τ ls' st' w', ab_γ sets G (σ ++ τ) q.2 ls' st' → ab_J T sets wr w0 w' → aw none d k Q (q.1, ls', st') w') → aw none d k Q (pc, ls, st) w
theorem ab_run_s (hmc : ∀ p f, am_find mc p = some f → ab_mok T sets wr (d + 1) k p f) (hTB : T.length ≤ am_B) (hwr : ∀ p ∈ wr.1, p < am_B) (hS : ∀ z m, m ∈ S z → ab_ok T sets wr d z m) (hN : ∀ nd ∈ nds, ∀ σ ls st w, ab_γ sets G σ nd.2.1 ls st → ab_J T sets wr w0 w → ab_cm ls nd.2.2.1 + nd.2.2.2 < M0 → aw none (d + 1) k (ab_Q T sets wr G w0 ps) (nd.1, ls, st) w) : ∀ (n : Nat) (go : Bool) (pc : Nat) (t : ab_T), ab_run T sets wr S k ps nds l0 k0 mc n go pc t = true → ∀ σ ls st w, ab_γ sets G σ t ls st → ab_J T sets wr w0 w → ab_ids σ.length l0 = true → ab_ev σ l0 + k0 = M0 → aw none (d + 1) k (ab_Q T sets wr G w0 ps) (pc, ls, st) w
  | 0, _, _, _, h, _, _, _, _, _, _, _, _ => by cases h
  | n + 1, go, pc, t, h, σ, ls, st, w, hg, hJ, hid, hM => by
    rw [ab_run] at h
    cases hc : (!go && nds.any (fun nd => Nat.beq nd.1 pc)) with
    | true =>
      rw [hc] at h
      simp only [cond_true] at h
      obtain ⟨nd, hm, h1⟩ := List.any_eq_true.mp h
      obtain ⟨h2, h3⟩ := am_and h1
      obtain ⟨h3, h4⟩ := am_and h3
      have h2 := Nat.eq_of_beq_eq_true h2
      obtain ⟨σ', hg'⟩ := ab_cov_γ h3 hg
      rw [← h2]
      refine hN nd hm σ' ls st w hg' hJ ?_
      unfold ab_dec at h4
      split at h4
      · rename_i l k1 hl
        obtain ⟨h5, h6⟩ := am_and h4
        have h6 := of_decide_eq_true h6
        have e1 := ab_lin_cm hg.2.1 hl
        have e2 := ab_ub_ev hg.1 h5
        rw [ab_ev_mrg, ab_ev_mrg] at e2
        have e3 : ab_ev σ [] = 0 := rfl
        omega
      · cases h4
    | false =>
      rw [hc] at h
      simp only [cond_false] at h
      split at h
      · rename_i f hfm
        split at h
        · cases h
        · rename_i L hL
          refine hmc pc f hfm G w0 _ t L σ ls st w hL hg hJ ?_
          intro q hq τ ls' st' w' hg' hJ'
          refine ab_run_s hmc hTB hwr hS hN n false q.1 q.2 (List.all_eq_true.mp h q hq) (σ ++ τ) ls' st' w' hg' hJ' ?_ (by rw [ab_ev_app hid]; exact hM)
          refine List.all_eq_true.mpr fun z hz => ?_
          have := am_blt (List.all_eq_true.mp hid z hz)
          exact Nat.ble_eq_true_of_le (by rw [List.length_append]; omega)
      split at h
      · cases h
      · rename_i ins len hf
        cases hr : ab_isret ins with
        | true =>
          rw [hr] at h
          exact ab_ret_s h hf hg hJ
        | false =>
          rw [hr] at h
          simp only [cond_false] at h
          split at h
          · cases h
          · rename_i L hL
            refine ab_step hTB hwr hS hg hJ hf hL ?_
            intro q hq τ ls' st' w' hg' hJ'
            refine ab_run_s hmc hTB hwr hS hN n false q.1 q.2 (List.all_eq_true.mp h q hq) (σ ++ τ) ls' st' w' hg' hJ' ?_ (by rw [ab_ev_app hid]; exact hM)
            refine List.all_eq_true.mpr fun z hz => ?_
            have := am_blt (List.all_eq_true.mp hid z hz)
            exact Nat.ble_eq_true_of_le (by rw [List.length_append]; omega)
theorem ab_loc_cons {σ : List Int} {L : List (Option ab_S)} {ls : am_L} {o : Option ab_S} {u : Option Value} (h : ab_loc sets σ L ls) (ho : ∀ s, o = some s → ∃ v, u = some v ∧ ab_sl sets σ s v) : ab_loc sets σ (o :: L) (u :: ls) := by
  refine ⟨by rw [List.length_cons, List.length_cons, h.1], fun i s hi => ?_⟩
  cases i with
  | zero =>
    have hi : some o = some (some s) := hi
    obtain ⟨v, h1, h2⟩ := ho s (Option.some.inj hi)
    exact ⟨v, by rw [h1]; rfl, h2⟩
  | succ i =>
    obtain ⟨v, h1, h2⟩ := h.2 i s hi
    exact ⟨v, h1, h2⟩
theorem ab_ent_s : ∀ {ts : List ab_F} {as : List Value} {E : ab_E} {σ : List Int} {n : Nat}, ab_vals sets as ts → ab_env E σ → (ab_ent E ts).2.1.length = (am_args as).length ∧ ∃ τ, ab_env (ab_ent E ts).1 (σ ++ τ) ∧ ab_loc sets (σ ++ τ) ((ab_ent E ts).2.1 ++ List.replicate n none) (am_args as ++ List.replicate n none) ∧ ab_stk sets (σ ++ τ) (ab_ent E ts).2.2 as
  | [], [], E, σ, n, _, he => ⟨rfl, [], by rw [List.append_nil]; exact he, ⟨by simp [ab_ent, am_args], fun i s hi => by
      have := List.eq_of_mem_replicate (List.mem_of_getElem? hi)
      cases this⟩, trivial⟩
  | t :: ts, v :: as, E, σ, n, hv, he => by
    obtain ⟨τ1, e1, e2⟩ := ab_of_sl (sets := sets) hv.1 he
    obtain ⟨h1, τ2, e3, e4, e5⟩ := ab_ent_s (n := n) hv.2 e1
    have e6 := e2.app τ2
    have hcat : v.category = (bif Nat.beq t.1 1 then 2 else 1) := by
      rcases hv.1 with ⟨g1, x, rfl, -⟩ | ⟨g1, x, rfl, -⟩ | ⟨g1, p, rfl, -⟩ | ⟨g1, p, rfl, -⟩ <;> rw [g1] <;> rfl
    unfold ab_ent am_args
    cases hb : Nat.beq t.1 1 with
    | true =>
      rw [hb] at hcat
      simp only [cond_true] at hcat ⊢
      rw [if_pos hcat]
      refine ⟨by simp [h1], τ1 ++ τ2, by rw [← List.append_assoc]; exact e3, ?_, by rw [← List.append_assoc]; exact ⟨e6, e5⟩⟩
      rw [← List.append_assoc]
      exact ab_loc_cons (ab_loc_cons e4 (fun s q => by cases q)) (fun s q => ⟨v, rfl, by cases q; exact e6⟩)
    | false =>
      rw [hb] at hcat
      simp only [cond_false] at hcat ⊢
      rw [if_neg (by rw [hcat]; decide)]
      refine ⟨by simp [h1], τ1 ++ τ2, by rw [← List.append_assoc]; exact e3, ?_, by rw [← List.append_assoc]; exact ⟨e6, e5⟩⟩
      rw [← List.append_assoc]
      exact ab_loc_cons e4 (fun s q => ⟨v, rfl, by cases q; exact e6⟩)
  | [], _ :: _, _, _, _, h, _ => h.elim
  | _ :: _, [], _, _, _, h, _ => h.elim
/-- THE CHECKER IS RIGHT -/
theorem ab_chk_ok {m : ab_M} {fuel : Nat} (hmc : ∀ p f, am_find mc p = some f → ab_mok T sets wr (d + 1) k p f) (hTB : T.length ≤ am_B) (hwr : ∀ p ∈ wr.1, p < am_B) (hS : ∀ z m, m ∈ S z → ab_ok T sets wr d z m) (h : ab_chk T sets wr S k m nds mc fuel = true) : ab_ok T sets wr (d + 1) k m := by
  unfold ab_chk at h
  obtain ⟨h1, h2⟩ := am_and h
  obtain ⟨h2, h3⟩ := am_and h2
  intro w as hI hv
  have he0 : ab_env [(0, 0)] [0] := ⟨rfl, Nat.le_refl _, rfl, fun i hi => by
    have : i = 0 := by simp at hi; omega
    subst this
    exact ⟨Int.le_refl _, Int.le_refl _⟩⟩
  obtain ⟨g1, τ, g2, g3, g4⟩ := ab_ent_s (sets := sets) (n := am_ml k - (ab_ent [(0, 0)] m.1).2.1.length) hv he0
  have hlen : (am_args as).length ≤ am_ml k := by rw [← g1]; exact Nat.le_of_ble_eq_true h1
  refine ⟨hlen, ?_⟩
  have hJ0 : ab_J T sets wr w w := ⟨hI, ab_fr.rf⟩
  have hN : ∀ (M : Nat), ∀ nd ∈ nds, ∀ σ ls st w', ab_γ sets as σ nd.2.1 ls st → ab_J T sets wr w w' → ab_cm ls nd.2.2.1 + nd.2.2.2 < (M : Int) → aw none (d + 1) k (ab_Q T sets wr as w m.2) (nd.1, ls, st) w' := by
    intro M
    induction M with
    | zero =>
      intro nd hm σ ls st w' hg hJ hlt
      exfalso
      have c := List.all_eq_true.mp h3 nd hm
      split at c
      · rename_i l k1 hl
        obtain ⟨c1, c2⟩ := am_and c
        have c3 := of_decide_eq_true (am_and c2).1
        have e1 := ab_lin_cm hg.2.1 hl
        have e2 := ab_lb_ev hg.1 c1
        omega
      · cases c
    | succ M ih =>
      intro nd hm σ ls st w' hg hJ hlt
      have c := List.all_eq_true.mp h3 nd hm
      split at c
      · rename_i l k1 hl
        obtain ⟨c1, c2⟩ := am_and c
        have c3 := (am_and c2).2
        have e1 := ab_lin_cm hg.2.1 hl
        refine ab_run_s hmc (M0 := ab_ev σ l + (nd.2.2.2 + k1)) hTB hwr hS (fun nd2 hm2 σ2 ls2 st2 w2 hg2 hJ2 hlt2 => ih nd2 hm2 σ2 ls2 st2 w2 hg2 hJ2 (by omega)) fuel true nd.1 nd.2.1 c3 σ ls st w' hg hJ (by rw [hg.1.1]; exact c1) rfl
      · cases c
  have hfin := ab_run_s hmc (M0 := ab_big) (G := as) (w0 := w) hTB hwr hS (fun nd hm σ ls st w' hg hJ hlt => hN ab_big.toNat nd hm σ ls st w' hg hJ (by have : ((ab_big.toNat : Nat) : Int) = ab_big := rfl; omega)) fuel false 0 _ h2 ([0] ++ τ) (am_entry k as) [] w ⟨g2, by
      show ab_loc sets ([0] ++ τ) _ (am_args as ++ List.replicate ((am_mi k).2.1 - (am_args as).length) none)
      rw [g1] at g3
      rw [g1]
      exact g3, trivial, g4⟩ hJ0 rfl (by show (0 : Int) + ab_big = ab_big; rfl)
  exact hfin
end ABQ
/-! lists of what is told of methods -/
noncomputable def ab_SL (l : List (Nat × ab_M)) (z : Nat) : List ab_M := l.filterMap (fun p => bif Nat.beq p.1 z then some p.2 else none)
theorem ab_ok.deep {T : List ab_C} {sets : List (List Nat)} {wr : ab_wT} {d z : Nat} {m : ab_M} (h : ab_ok T sets wr d z m) {d' : Nat} (hd : d ≤ d') : ab_ok T sets wr d' z m := fun w as hI hv => ⟨(h w as hI hv).1, (h w as hI hv).2.deep hd⟩
theorem ab_SLn {T : List ab_C} {sets : List (List Nat)} {wr : ab_wT} {d : Nat} : ∀ z m, m ∈ ab_SL [] z → ab_ok T sets wr d z m := fun _ _ h => by cases h
theorem ab_SLc {T : List ab_C} {sets : List (List Nat)} {wr : ab_wT} {d d' z0 : Nat} {m0 : ab_M} {l : List (Nat × ab_M)} (h : ab_ok T sets wr d z0 m0) (hd : d ≤ d') (hl : ∀ z m, m ∈ ab_SL l z → ab_ok T sets wr d' z m) : ∀ z m, m ∈ ab_SL ((z0, m0) :: l) z → ab_ok T sets wr d' z m := by
  intro z m hm
  unfold ab_SL at hm
  rw [List.filterMap_cons] at hm
  cases hb : Nat.beq z0 z with
  | true =>
    have e := Nat.eq_of_beq_eq_true hb
    subst e
    simp only [hb, cond_true, List.mem_cons] at hm
    rcases hm with hm | hm
    · rw [hm]; exact h.deep hd
    · exact hl _ m hm
  | false =>
    simp only [hb, cond_false] at hm
    exact hl _ m hm
theorem ab_mc0 {T : List ab_C} {sets : List (List Nat)} {wr : ab_wT} {d k : Nat} : ∀ p f, am_find ([] : List (Nat × (ab_T → ab_R))) p = some f → ab_mok T sets wr d k p f := fun _ _ h => by cases h
