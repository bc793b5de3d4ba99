/-! ===== a step of the checker covers a step of the machine ===== -/
section ABX
variable {T : List ab_C} {sets : List (List Nat)} {wr : ab_wT} {S : Nat → List ab_M} {G : List Value} {σ : List Int} {t : ab_T} {ls : am_L} {st : List Value} {w w0 : am_W} {pc d k : Nat} {Q : Option Value → am_W → Prop} {L : List (Nat × ab_T)}
noncomputable def ab_K (T : List ab_C) (sets : List (List Nat)) (wr : ab_wT) (G : List Value) (σ : List Int) (w0 : am_W) (d k : Nat) (Q : Option Value → am_W → Prop) (L : List (Nat × ab_T)) : Prop := ∀ q ∈ L, ∀ τ ls' st' w', ab_γ sets G (σ ++ τ) q.2 ls' st' → ab_J T sets wr w0 w' → aw none d k Q (q.1, ls', st') w'
theorem ab_K.one {q : Nat × ab_T} (K : ab_K T sets wr G σ w0 d k Q L) (hL : some [q] = some L) (τ : List Int) {ls' : am_L} {st' : List Value} {w' : am_W} (h : ab_γ sets G (σ ++ τ) q.2 ls' st') (hJ : ab_J T sets wr w0 w') : aw none d k Q (q.1, ls', st') w' := by
  cases hL
  exact K q (List.mem_singleton.mpr rfl) τ ls' st' w' h hJ
/-- the same ids -/
theorem ab_K.same {pc1 : Nat} {L1 : List (Option ab_S)} {S1 : List ab_S} (K : ab_K T sets wr G σ w0 d k Q L) (hL : some [(pc1, (t.1, L1, S1, t.2.2.2))] = some L) (hg : ab_γ sets G σ t ls st) {ls' : am_L} {st' : List Value} {w' : am_W} (hl : ab_loc sets σ L1 ls') (hs : ab_stk sets σ S1 st') (hJ : ab_J T sets wr w0 w') : aw none d k Q (pc1, ls', st') w' :=
  K.one hL [] (by rw [List.append_nil]; exact ⟨hg.1, hl, hs, hg.2.2.2⟩) hJ
/-- a value more -/
theorem ab_K.push {pc1 : Nat} {q : ab_E × ab_S} {r : List ab_S} (K : ab_K T sets wr G σ w0 d k Q L) (hL : ab_1 pc1 q t.2.1 r t.2.2.2 = some L) (hg : ab_γ sets G σ t ls st) {v : Value} {st' : List Value} {w' : am_W} (hv : ∃ τ, ab_env q.1 (σ ++ τ) ∧ ab_sl sets (σ ++ τ) q.2 v) (hs : ab_stk sets σ r st') (hJ : ab_J T sets wr w0 w') : aw none d k Q (pc1, ls, v :: st') w' := by
  obtain ⟨τ, h1, h2⟩ := hv
  exact K.one hL τ ⟨h1, hg.2.1.app τ, ⟨h2, hs.app τ⟩, hg.2.2.2.app τ⟩ hJ
theorem ab_load_s {kd i : Nat} (h : ab_load kd pc i t = some L) (hl : ab_loc sets σ t.2.1 ls) : ∃ s v, ls[i]? = some (some v) ∧ ab_sl sets σ s v ∧ (Nat.beq s.1 kd = true ∨ (kd = 2 ∧ Nat.beq s.1 3 = true)) ∧ some [(pc, (t.1, t.2.1, s :: t.2.2.1, t.2.2.2))] = some L := by
  unfold ab_load at h
  split at h
  · rename_i s hs
    obtain ⟨h1, h2⟩ := am_bif h
    obtain ⟨v, g1, g2⟩ := hl.2 i s hs
    refine ⟨s, v, g1, g2, ?_, h2⟩
    rcases Bool.or_eq_true _ _ |>.mp h1 with q | q
    · exact Or.inl q
    · exact Or.inr ⟨Nat.eq_of_beq_eq_true (am_and q).1, (am_and q).2⟩
  · cases h
theorem ab_store_s {kd i : Nat} (h : ab_store kd pc i t = some L) (hs : ab_stk sets σ t.2.2.1 st) : ∃ s r v st', t.2.2.1 = s :: r ∧ st = v :: st' ∧ ab_sl sets σ s v ∧ ab_stk sets σ r st' ∧ ((kd = 1 ∧ Nat.beq s.1 1 = true ∧ i + 1 < t.2.1.length ∧ some [(pc, (t.1, ab_st2 t.2.1 i s, r, t.2.2.2))] = some L) ∨ (kd ≠ 1 ∧ (Nat.beq s.1 kd = true ∨ (kd = 2 ∧ Nat.beq s.1 3 = true)) ∧ i < t.2.1.length ∧ some [(pc, (t.1, ab_st1 t.2.1 i s, r, t.2.2.2))] = some L)) := by
  unfold ab_store at h
  split at h
  · rename_i s r e
    rw [e] at hs
    obtain ⟨v, st', rfl, h1, h2⟩ := ab_stk_cons hs
    refine ⟨s, r, v, st', e, rfl, h1, h2, ?_⟩
    cases hk : Nat.beq kd 1 with
    | true =>
      rw [hk] at h
      simp only [cond_true] at h
      obtain ⟨g1, g2⟩ := am_bif h
      exact Or.inl ⟨Nat.eq_of_beq_eq_true hk, (am_and g1).1, am_blt (am_and g1).2, g2⟩
    | false =>
      rw [hk] at h
      simp only [cond_false] at h
      obtain ⟨g1, g2⟩ := am_bif h
      refine Or.inr ⟨Nat.ne_of_beq_eq_false hk, ?_, am_blt (am_and g1).2, g2⟩
      rcases Bool.or_eq_true _ _ |>.mp (am_and g1).1 with q | q
      · exact Or.inl q
      · exact Or.inr ⟨Nat.eq_of_beq_eq_true (am_and q).1, (am_and q).2⟩
  · cases h
theorem ab_refv {s : ab_S} {v : Value} (h : ab_sl sets σ s v) (hk : Nat.beq s.1 2 = true ∨ ((2 : Nat) = 2 ∧ Nat.beq s.1 3 = true)) : ∃ p, v = .ref p := by
  rcases hk with q | ⟨-, q⟩
  · exact ⟨_, ab_sl_r h q⟩
  · obtain ⟨p, e, -⟩ := ab_sl_q h q
    exact ⟨p, e⟩
theorem ab_ibin_s {f : ab_E → ab_S → ab_S → Option (ab_E × ab_S)} (h : ab_ibin f pc t = some L) (hs : ab_stk sets σ t.2.2.1 st) : ∃ a b r x y st' q, st = .int y :: .int x :: st' ∧ a.2.1 < σ.length ∧ b.2.1 < σ.length ∧ x.toInt = σ.getD a.2.1 0 + a.2.2 ∧ y.toInt = σ.getD b.2.1 0 + b.2.2 ∧ ab_stk sets σ r st' ∧ f t.1 a b = some q ∧ ab_1 pc q t.2.1 r t.2.2.2 = some L := by
  unfold ab_ibin at h
  split at h
  · rename_i b a r e
    rw [e] at hs
    obtain ⟨v, st1, rfl, h1, h2⟩ := ab_stk_cons hs
    obtain ⟨u, st2, rfl, h3, h4⟩ := ab_stk_cons h2
    obtain ⟨g1, g2⟩ := am_bif h
    obtain ⟨x, rfl, l1, x1⟩ := ab_sl_i h3 (am_and g1).1
    obtain ⟨y, rfl, l2, x2⟩ := ab_sl_i h1 (am_and g1).2
    split at g2
    · rename_i q hq
      exact ⟨a, b, r, x, y, st2, q, rfl, l1, l2, x1, x2, h4, hq, g2⟩
    · cases g2
  · cases h
theorem ab_lbin_s {nz : Bool} (h : ab_lbin nz pc t = some L) (hg : ab_γ sets G σ t ls st) : ∃ r x y st', st = .long y :: .long x :: st' ∧ ab_stk sets σ r st' ∧ (nz = true → ¬ y = 0) ∧ ab_1 pc (ab_top64 t.1) t.2.1 r t.2.2.2 = some L := by
  have hs := hg.2.2.1
  unfold ab_lbin at h
  split at h
  · rename_i b a r e
    rw [e] at hs
    obtain ⟨v, st1, rfl, h1, h2⟩ := ab_stk_cons hs
    obtain ⟨u, st2, rfl, h3, h4⟩ := ab_stk_cons h2
    obtain ⟨g1, g2⟩ := am_bif h
    obtain ⟨g3, g4⟩ := am_and g1
    obtain ⟨g4, g5⟩ := am_and g4
    obtain ⟨x, rfl, l1, x1⟩ := ab_sl_l h3 g3
    obtain ⟨y, rfl, l2, x2⟩ := ab_sl_l h1 g4
    refine ⟨r, x, y, st2, rfl, h4, fun q => ?_, g2⟩
    rw [q] at g5
    have iv := ab_iv_of hg.1 l2 x2
    have := ab_nzero (am_or g5 rfl) iv.1 iv.2
    exact fun e => this (by rw [e]; rfl)
  · cases h
theorem ab_lsh_s (h : ab_lsh pc t = some L) (hs : ab_stk sets σ t.2.2.1 st) : ∃ r x y st', st = .int y :: .long x :: st' ∧ ab_stk sets σ r st' ∧ ab_1 pc (ab_top64 t.1) t.2.1 r t.2.2.2 = some L := by
  unfold ab_lsh at h
  split at h
  · rename_i b a r e
    rw [e] at hs
    obtain ⟨v, st1, rfl, h1, h2⟩ := ab_stk_cons hs
    obtain ⟨u, st2, rfl, h3, h4⟩ := ab_stk_cons h2
    obtain ⟨g1, g2⟩ := am_bif h
    obtain ⟨x, rfl, -, -⟩ := ab_sl_l h3 (am_and g1).1
    obtain ⟨y, rfl, -, -⟩ := ab_sl_i h1 (am_and g1).2
    exact ⟨r, x, y, st2, rfl, h4, g2⟩
  · cases h
theorem ab_t64 (he : ab_env t.1 σ) (x : Int64) : ∃ τ, ab_env (ab_top64 t.1).1 (σ ++ τ) ∧ ab_sl sets (σ ++ τ) (ab_top64 t.1).2 (.long x) := ⟨_, ab_new_l he (ab_any64 x).1 (ab_any64 x).2⟩
theorem ab_t32 {E : ab_E} (he : ab_env E σ) (x : Int32) : ∃ τ, ab_env (ab_top32 E).1 (σ ++ τ) ∧ ab_sl sets (σ ++ τ) (ab_top32 E).2 (.int x) := ⟨_, ab_new_i he (ab_any32 x).1 (ab_any32 x).2⟩
/-- a branch -/
theorem ab_br_s {q : ClassFile.Cond} {a b : ab_S} {pc1 : Int} {pc2 : Nat} {r : List ab_S} (h : ab_br q a b pc1 pc2 t r = some L) (K : ab_K T sets wr G σ w0 d k Q L) (hg : ab_γ sets G σ t ls st) (ha : a.2.1 < σ.length) (hb : b.2.1 < σ.length) {st' : List Value} (hr : ab_stk sets σ r st') (hJ : ab_J T sets wr w0 w) : ∃ p1 : Nat, pc1 = (p1 : Int) ∧ (ab_P q (σ.getD a.2.1 0 + a.2.2) (σ.getD b.2.1 0 + b.2.2) → aw none d k Q (p1, ls, st') w) ∧ (¬ ab_P q (σ.getD a.2.1 0 + a.2.2) (σ.getD b.2.1 0 + b.2.2) → aw none d k Q (pc2, ls, st') w) := by
  unfold ab_br at h
  split at h
  · rename_i p1
    cases h
    refine ⟨p1, rfl, fun g => ?_, fun g => ?_⟩
    · obtain ⟨E1, m1, e1⟩ := ab_cond_t q hg.1 ha hb g
      exact K (p1, (E1, t.2.1, r, t.2.2.2)) (List.mem_append_left _ (List.mem_map.mpr ⟨E1, m1, rfl⟩)) [] ls st' w (by rw [List.append_nil]; exact ⟨e1, hg.2.1, hr, hg.2.2.2⟩) hJ
    · obtain ⟨E1, m1, e1⟩ := ab_cond_f q hg.1 ha hb g
      exact K (pc2, (E1, t.2.1, r, t.2.2.2)) (List.mem_append_right _ (List.mem_map.mpr ⟨E1, m1, rfl⟩)) [] ls st' w (by rw [List.append_nil]; exact ⟨e1, hg.2.1, hr, hg.2.2.2⟩) hJ
  · cases h
theorem ab_ald_s {kd rk : Nat} (h : ab_ald T sets kd rk pc t = some L) (hg : ab_γ sets G σ t ls st) : ∃ a r n lo hi x v st', st = .int x :: v :: st' ∧ ab_sl sets σ a v ∧ ab_stk sets σ r st' ∧ ab_cellR T kd a sets = some (n, lo, hi) ∧ vp_in x n ∧ ab_1 pc (ab_new t.1 rk lo hi) t.2.1 r t.2.2.2 = some L := by
  have hs := hg.2.2.1
  unfold ab_ald at h
  split at h
  · rename_i i a r e
    rw [e] at hs
    obtain ⟨v, st1, rfl, h1, h2⟩ := ab_stk_cons hs
    obtain ⟨u, st2, rfl, h3, h4⟩ := ab_stk_cons h2
    split at h
    · rename_i n lo hi hc
      obtain ⟨g1, g2⟩ := am_bif h
      obtain ⟨x, rfl, l1, x1⟩ := ab_sl_i h1 (am_and g1).1
      have iv := ab_iv_of hg.1 l1 x1
      exact ⟨a, r, n, lo, hi, x, u, st2, rfl, h3, h4, hc, ab_inb (am_and g1).2 iv.1 iv.2, g2⟩
    · cases h
  · cases h
theorem ab_ast_s {kd rk : Nat} (h : ab_ast T sets wr kd rk pc t = some L) (hg : ab_γ sets G σ t ls st) : ∃ s a r n lo hi x v u st', st = v :: .int x :: u :: st' ∧ ab_sl sets σ s v ∧ Nat.beq s.1 rk = true ∧ ab_sl sets σ a u ∧ ab_stk sets σ r st' ∧ ab_cellR T kd a sets = some (n, lo, hi) ∧ vp_in x n ∧ ab_wr wr a sets = true ∧ (kd = 1 ∨ (lo ≤ (ab_iv t.1 s).1 ∧ (ab_iv t.1 s).2 ≤ hi)) ∧ some [(pc, (t.1, t.2.1, r, t.2.2.2))] = some L := by
  have hs := hg.2.2.1
  unfold ab_ast at h
  split at h
  · rename_i s i a r e
    rw [e] at hs
    obtain ⟨v, st1, rfl, h1, h2⟩ := ab_stk_cons hs
    obtain ⟨u, st2, rfl, h3, h4⟩ := ab_stk_cons h2
    obtain ⟨u2, st3, rfl, h5, h6⟩ := ab_stk_cons h4
    split at h
    · rename_i n lo hi hc
      obtain ⟨g1, g2⟩ := am_bif h
      obtain ⟨k1, g3⟩ := am_and g1
      obtain ⟨k2, g4⟩ := am_and g3
      obtain ⟨k3, g5⟩ := am_and g4
      obtain ⟨k4, k5⟩ := am_and g5
      obtain ⟨x, rfl, l1, x1⟩ := ab_sl_i h3 k1
      have iv := ab_iv_of hg.1 l1 x1
      refine ⟨s, a, r, n, lo, hi, x, v, u2, st3, rfl, h1, k3, h5, h6, hc, ab_inb k2 iv.1 iv.2, k4, ?_, g2⟩
      rcases Bool.or_eq_true _ _ |>.mp k5 with q | q
      · exact Or.inl (Nat.eq_of_beq_eq_true q)
      · exact Or.inr ⟨of_decide_eq_true (am_and q).1, of_decide_eq_true (am_and q).2⟩
    · cases h
  · cases h
theorem ab_clamp {x : Int32} (h : 0 ≤ x.toInt) : ¬ x < 0 ∧ (x.toNatClampNeg : Int) = x.toInt := by
  refine ⟨fun q => ?_, ?_⟩
  · rw [Int32.lt_iff_toInt_lt] at q
    have : (0 : Int32).toInt = 0 := rfl
    omega
  · have : x.toNatClampNeg = x.toInt.toNat := rfl
    omega
theorem ab_cpy_mem {f g : List Int32} {sp dp n : Nat} {x : Int32} (h : x ∈ am_cpy f g sp dp n) : x ∈ f ∨ x ∈ g := by
  unfold am_cpy at h
  rcases List.mem_append.mp h with h | h
  · rcases List.mem_append.mp h with h | h
    · exact Or.inr (List.mem_of_mem_take h)
    · exact Or.inl (List.mem_of_mem_drop (List.mem_of_mem_take h))
  · exact Or.inr (List.mem_of_mem_drop h)
set_option maxHeartbeats 4000000 in
theorem ab_copy_s {ins : Instr} {len : Nat} (hwr : ∀ p ∈ wr.1, p < am_B) (hci : ∀ o, am_copy (pc + 3) ls st w = some o → am_ins none (am_mi k).1 (am_mi k).2.2.1 (am_mi k).2.2.2 ins pc ls st w = some o) (hg : ab_γ sets G σ t ls st) (hJ : ab_J T sets wr w0 w) (hf : am_find (am_code k) pc = some (ins, len)) (h : ab_copy T sets wr (pc + 3) t = some L) (K : ab_K T sets wr G σ w0 d k Q L) : aw none d k Q (pc, ls, st) w := by
  have he := hg.1
  have hs := hg.2.2.1
  unfold ab_copy at h
  split at h
  · rename_i n dp a sp b r e
    rw [e] at hs
    obtain ⟨v1, st1, rfl, s1, hs1⟩ := ab_stk_cons hs
    obtain ⟨v2, st2, rfl, s2, hs2⟩ := ab_stk_cons hs1
    obtain ⟨v3, st3, rfl, s3, hs3⟩ := ab_stk_cons hs2
    obtain ⟨v4, st4, rfl, s4, hs4⟩ := ab_stk_cons hs3
    obtain ⟨v5, st5, rfl, s5, hs5⟩ := ab_stk_cons hs4
    split at h
    · rename_i n1 lo hi n0 lo0 hi0 ca cb
      obtain ⟨hc, hL⟩ := am_bif h
      obtain ⟨c1, hc⟩ := am_and hc
      obtain ⟨c2, hc⟩ := am_and hc
      obtain ⟨c3, hc⟩ := am_and hc
      obtain ⟨c4, hc⟩ := am_and hc
      obtain ⟨c5, hc⟩ := am_and hc
      obtain ⟨c6, hc⟩ := am_and hc
      obtain ⟨c7, hc⟩ := am_and hc
      obtain ⟨c8, hc⟩ := am_and hc
      obtain ⟨c9, hc⟩ := am_and hc
      obtain ⟨c10, hc⟩ := am_and hc
      obtain ⟨c11, hc⟩ := am_and hc
      obtain ⟨c12, hc⟩ := am_and hc
      obtain ⟨c13, hc⟩ := am_and hc
      obtain ⟨c14, c15⟩ := am_and hc
      obtain ⟨xn, rfl, ln, en⟩ := ab_sl_i s1 c1
      obtain ⟨xd, rfl, ld, ed⟩ := ab_sl_i s2 c2
      obtain ⟨xs, rfl, l3, es⟩ := ab_sl_i s4 c3
      cases ab_sl_r s3 c4
      cases ab_sl_r s5 c5
      have in1 := ab_iv_of he ln en
      have in2 := ab_iv_of he ld ed
      have in3 := ab_iv_of he l3 es
      have hin := List.contains_iff_mem.mp c7
      have c8 := of_decide_eq_true c8
      have c9 := of_decide_eq_true c9
      have c10 := of_decide_eq_true c10
      have c11 := of_decide_eq_true c11
      have c12 := of_decide_eq_true c12
      have c13 := of_decide_eq_true c13
      have c14 := of_decide_eq_true c14
      obtain ⟨p, e1, hca⟩ := ab_cellR_inv ca s3
      cases e1
      obtain ⟨p, e1, hcb⟩ := ab_cellR_inv cb s5
      cases e1
      rcases hca with ⟨-, hTa⟩ | ⟨q, -⟩
      · rcases hcb with ⟨-, hTb⟩ | ⟨q, -⟩
        · obtain ⟨qa, wa, ha⟩ := hJ.1.2 _ _ hTa
          obtain ⟨qb, wb, hb⟩ := hJ.1.2 _ _ hTb
          rcases ha with ⟨-, g, rfl, g2, g3⟩ | ⟨z, -⟩ | ⟨z, -⟩ | z
          · rcases hb with ⟨-, f, rfl, f2, f3⟩ | ⟨z, -⟩ | ⟨z, -⟩ | z
            · have k1 := ab_clamp (x := xn) (by omega)
              have k2 := ab_clamp (x := xd) (by omega)
              have k3 := ab_clamp (x := xs) (by omega)
              have hcat : (st5.map fun v => v.category).sum ≤ 8 := by rw [ab_cats_of hs5]; exact Nat.le_of_ble_eq_true c15
              have b1 : xs.toNatClampNeg + xn.toNatClampNeg ≤ f.length := by omega
              have b2 : xd.toNatClampNeg + xn.toNatClampNeg ≤ g.length := by omega
              refine aw_step hf (f1 := (pc + 3, ls, st5)) (w1 := w.set a.2.1 (.inl (.inl (0, am_cpy f g xs.toNatClampNeg xd.toNatClampNeg xn.toNatClampNeg)))) (hci _ ?_) (K.same hL hg hg.2.1 hs5 (ab_put hJ hin hTa (Or.inl ⟨rfl, _, rfl, by rw [am_cpy_len b1 b2]; exact g2, fun z hz => ?_⟩)))
              · unfold am_copy
                simp only
                rw [wa, wb]
                simp only
                rw [if_neg (by
                  simp only [not_or, Nat.not_lt]
                  exact ⟨k1.1, k2.1, k3.1, b1, b2, hcat⟩)]
                rfl
              · rcases ab_cpy_mem hz with m | m
                · have := f3 z m; omega
                · exact g3 z m
            · cases z
            · cases z
            · cases z
          · cases z
          · cases z
          · cases z
        · exact absurd (am_blt c6) (by rw [q]; exact Nat.lt_irrefl _)
      · exact absurd (hwr _ hin) (by rw [q]; exact Nat.lt_irrefl _)
    · cases h
  · cases h
theorem ab_jt_s {pc p : Nat} {o : Int} (h : ab_jt pc o = some p) : (pc : Int) + o = (p : Int) := by
  unfold ab_jt at h
  split at h
  · rename_i e; cases h; exact e
  · cases h
theorem ab_swl_s {pc : Nat} : ∀ {os : List Int} {v : Int} {l : List (Int × Nat)}, ab_swl pc v os = some l → ∀ (j : Nat) (o : Int), os[j]? = some o → ∃ p : Nat, (pc : Int) + o = (p : Int) ∧ (v + j, p) ∈ l
  | [], _, _, _, _, _, h => by simp at h
  | o0 :: os, v, l, h, j, o, hj => by
    unfold ab_swl at h
    split at h
    · rename_i p l2 e1 e2
      cases h
      cases j with
      | zero =>
        simp at hj
        subst hj
        exact ⟨p, ab_jt_s e1, by simp⟩
      | succ j =>
        obtain ⟨p2, g1, g2⟩ := ab_swl_s e2 j o (by simpa using hj)
        refine ⟨p2, g1, List.mem_cons_of_mem _ ?_⟩
        have : v + ((j + 1 : Nat) : Int) = v + 1 + (j : Int) := by omega
        rw [this]
        exact g2
    · cases h
theorem ab_vals_len : ∀ {vs : List Value} {ts : List ab_F}, ab_vals sets vs ts → vs.length = ts.length
  | [], [], _ => rfl
  | _ :: _, _ :: _, h => congrArg (· + 1) (ab_vals_len h.2)
  | [], _ :: _, h => h.elim
  | _ :: _, [], h => h.elim
set_option maxHeartbeats 4000000 in
set_option maxRecDepth 100000 in
theorem ab_call_s {u i : Nat} {ins : Instr} {len : Nat} (hu : u = 0 ∨ u = 1) (hS : ∀ z m, m ∈ S z → ab_ok T sets wr d z m) (hci : ∀ o, am_call u (am_mi k).1 i (pc + 3) ls st w = some o → am_ins none (am_mi k).1 (am_mi k).2.2.1 (am_mi k).2.2.2 ins pc ls st w = some o) (hg : ab_γ sets G σ t ls st) (hJ : ab_J T sets wr w0 w) (hf : am_find (am_code k) pc = some (ins, len)) (hwr : ∀ p ∈ wr.1, p < am_B) (h : ab_call T sets wr S u (am_mi k).1 i (pc + 3) t = some L) (K : ab_K T sets wr G σ w0 (d + 1) k Q L) : aw none (d + 1) k Q (pc, ls, st) w := by
  have he := hg.1
  have hs := hg.2.2.1
  unfold ab_call at h
  split at h
  · rename_i kd z n hfi
    cases h6 : Nat.blt kd 6 with
    | true =>
      rw [h6] at h
      simp only [cond_true] at h
      obtain ⟨hm, h⟩ := am_bif h
      have hlen := ab_stk_len hs
      generalize hmm : (bif Nat.beq u 1 then n else n + 1) = mm at h
      split at h
      · rename_i m hp
        obtain ⟨hc, hL⟩ := am_bif h
        obtain ⟨c1, c2⟩ := am_and hc
        obtain ⟨c2, c3⟩ := am_and c2
        have c1 := Nat.le_of_ble_eq_true c1
        have c2 := Nat.le_of_ble_eq_true c2
        obtain ⟨hmem, hisL⟩ := ab_pick_mem hp
        have hsa : ab_stk sets σ (t.2.2.1.take mm).reverse (st.take mm).reverse := ab_stk_rev (ab_stk_take mm hs)
        have hsd : ab_stk sets σ (t.2.2.1.drop mm) (st.drop mm) := ab_stk_drop mm hs
        have hvals := ab_isL_vals hisL hsa he
        obtain ⟨ha, hrun⟩ := hS z m hmem w (st.take mm).reverse hJ.1 hvals
        have hcat : ((st.drop mm).map fun v => v.category).sum ≤ 8 := by rw [ab_cats_of hsd]; exact c2
        have hcall : am_call u (am_mi k).1 i (pc + 3) ls st w = some (.inr (.inl (z, (st.take mm).reverse, (pc + 3, ls, st.drop mm)))) := by
          unfold am_call
          rw [hfi]
          simp only
          rw [h6, hm]
          simp only [cond_true]
          rcases hu with rfl | rfl
          · have e1 : mm = n + 1 := hmm.symm
            subst e1
            simp only [Nat.beq, cond_false]
            have c4 := am_or c3 rfl
            split at c4
            · rename_i a rr ed
              obtain ⟨k1, k2⟩ := am_and c4
              obtain ⟨k2, k3⟩ := am_and k2
              have hd := ab_stk_drop n hs
              rw [ed] at hd
              obtain ⟨v, st1, ev, g1, g2⟩ := ab_stk_cons hd
              have ev2 := ab_sl_r g1 k1
              subst ev2
              have hdn : st.drop (n + 1) = st1 := by rw [← List.drop_drop, ev]; rfl
              have htk : (st.take (n + 1)).reverse = .ref a.2.1 :: (st.take n).reverse := by
                have hnl : n < st.length := by rw [← hlen]; omega
                have hgn : st[n]? = some (.ref a.2.1) := by
                  have := congrArg (fun l => l[0]?) ev
                  simpa [List.getElem?_drop] using this
                rw [List.take_add_one, hgn]
                simp
              rw [ev]
              simp only
              rw [hdn] at hcat ⊢
              rw [if_neg (Nat.not_lt.mpr hcat)]
              split at k3
              · rename_i ci ts hT
                obtain ⟨q, w1, fs, rfl, -⟩ := hJ.1.2 _ _ hT
                rw [w1]
                simp only
                rw [k3, htk]
                rfl
              · cases k3
            · cases c4
          · have e1 : mm = n := hmm.symm
            subst e1
            simp only [Nat.beq, cond_true]
            rw [if_neg (by intro q; rcases q with q | q <;> omega)]
        refine aw_call hf (hci _ hcall) ha hrun ?_
        intro r w1 hq
        obtain ⟨hJ1, o, ho, hres, hv2⟩ := hq
        refine ⟨hJ1.1.1.trans hJ.1.1.symm, ?_⟩
        have hJ2 := hJ.trans hJ1
        obtain ⟨E1, m1, e1⟩ := ab_ref_in hv2 hsa he
        cases hL
        cases ho1 : o.1 with
        | none =>
          cases r with
          | some v => rw [ho1] at hres; exact hres.elim
          | none =>
            refine K (pc + 3, (E1, t.2.1, t.2.2.1.drop mm, t.2.2.2)) (List.mem_flatMap.mpr ⟨o, ho, List.mem_map.mpr ⟨E1, m1, by rw [ho1]⟩⟩) [] ls (st.drop mm) w1 ?_ hJ2
            rw [List.append_nil]
            exact ⟨e1, hg.2.1, hsd, hg.2.2.2⟩
        | some ft =>
          cases r with
          | none => rw [ho1] at hres; exact hres.elim
          | some v =>
            rw [ho1] at hres
            obtain ⟨τ, q1, q2⟩ := ab_of_sl (sets := sets) (t := ft) (v := v) hres e1
            exact K (pc + 3, ((ab_of E1 ft).1, t.2.1, (ab_of E1 ft).2 :: t.2.2.1.drop mm, t.2.2.2)) (List.mem_flatMap.mpr ⟨o, ho, List.mem_map.mpr ⟨E1, m1, by rw [ho1]⟩⟩) τ ls (v :: st.drop mm) w1 ⟨q1, hg.2.1.app τ, ⟨q2, hsd.app τ⟩, hg.2.2.2.app τ⟩ hJ2
      · cases h
    | false =>
      rw [h6] at h
      simp only [cond_false] at h
      cases h60 : (Nat.beq u 1 && Nat.beq kd 6) with
      | true =>
        rw [h60] at h
        simp only [cond_true] at h
        have hu1 := Nat.eq_of_beq_eq_true (am_and h60).1
        have hk6 := Nat.eq_of_beq_eq_true (am_and h60).2
        subst hu1
        subst hk6
        exact ab_copy_s hwr (fun o hc => hci o (by unfold am_call; rw [hfi]; exact hc)) hg hJ hf h K
      | false =>
      rw [h60] at h
      simp only [cond_false] at h
      obtain ⟨hc, h7⟩ := am_bif h
      obtain ⟨c1, c2⟩ := am_and hc
      have hu1 := Nat.eq_of_beq_eq_true c1
      subst hu1
      split at h7
      · rename_i b a r e
        rw [e] at hs
        obtain ⟨v, st1, rfl, g1, g2⟩ := ab_stk_cons hs
        obtain ⟨v2, st2, rfl, g5, g6⟩ := ab_stk_cons g2
        obtain ⟨g3, g4⟩ := am_bif h7
        obtain ⟨k1, k0⟩ := am_and g3
        obtain ⟨k2, k3⟩ := am_and k0
        obtain ⟨x, rfl, l1, x1⟩ := ab_sl_i g5 k1
        obtain ⟨y, rfl, l2, x2⟩ := ab_sl_i g1 k2
        have hcat : (st2.map fun v => v.category).sum ≤ 8 := by rw [ab_cats_of g6]; exact Nat.le_of_ble_eq_true k3
        rcases Bool.or_eq_true _ _ |>.mp c2 with q | q
        · have q := Nat.eq_of_beq_eq_true q
          subst q
          refine aw_step hf (f1 := (pc + 3, ls, .int (if x < y then y else x) :: st2)) (w1 := w) (hci _ ?_) (K.push g4 hg (ab_mx_i he l1 l2 x1 x2) g6 hJ)
          unfold am_call
          rw [hfi]
          show am_mx (pc + 3) ls (.int y :: .int x :: st2) w = some (.inl ((pc + 3, ls, .int (if x < y then y else x) :: st2), w))
          unfold am_mx
          simp only
          rw [if_neg (Nat.not_lt.mpr hcat)]
          rfl
        · have q := Nat.eq_of_beq_eq_true q
          subst q
          refine aw_step hf (f1 := (pc + 3, ls, .int (if y < x then y else x) :: st2)) (w1 := w) (hci _ ?_) (K.push g4 hg (ab_mn_i he l1 l2 x1 x2) g6 hJ)
          unfold am_call
          rw [hfi]
          show am_mn (pc + 3) ls (.int y :: .int x :: st2) w = some (.inl ((pc + 3, ls, .int (if y < x then y else x) :: st2), w))
          unfold am_mn
          simp only
          rw [if_neg (Nat.not_lt.mpr hcat)]
          rfl
      · cases h7
  · cases h
set_option maxHeartbeats 8000000 in
set_option maxRecDepth 100000 in
theorem ab_step (hTB : T.length ≤ am_B) (hwr : ∀ p ∈ wr.1, p < am_B) (hS : ∀ z m, m ∈ S z → ab_ok T sets wr d z m) {ins : Instr} {len : Nat} (hg : ab_γ sets G σ t ls st) (hJ : ab_J T sets wr w0 w) (hf : am_find (am_code k) pc = some (ins, len)) (h : ab_ins T sets wr S k (am_mi k).1 ins pc t = some L) (K : ab_K T sets wr G σ w0 (d + 1) k Q L) : aw none (d + 1) k Q (pc, ls, st) w := by
  have he := hg.1
  have hl := hg.2.1
  have hs := hg.2.2.1
  cases ins
  case iload_n n =>
    obtain ⟨s, v, g1, g2, g3, g4⟩ := ab_load_s h hl
    have g3 : Nat.beq s.1 0 = true := g3.resolve_right (fun q => by cases q.1)
    obtain ⟨x, rfl, -, -⟩ := ab_sl_i g2 g3
    exact aw_step hf (f1 := (pc + 1, ls, .int x :: st)) (w1 := w) (by show am_iload (pc + 1) n.val ls st w = some (.inl ((pc + 1, ls, .int x :: st), w)); unfold am_iload; rw [g1]; rfl) (K.same g4 hg hl ⟨g2, hs⟩ hJ)
  case istore_n n =>
    obtain ⟨s, r, v, st1, e, rfl, g1, g2, g3⟩ := ab_store_s h hs
    rcases g3 with ⟨g3, -⟩ | ⟨-, g3, g4, g5⟩
    · cases g3
    · have g3 : Nat.beq s.1 0 = true := g3.resolve_right (fun q => by cases q.1)
      obtain ⟨x, rfl, -, -⟩ := ab_sl_i g1 g3
      exact aw_step hf (f1 := (pc + 1, am_st1 ls n.val (.int x), st1)) (w1 := w) (by show am_istore (pc + 1) n.val ls (.int x :: st1) w = some (.inl ((pc + 1, am_st1 ls n.val (.int x), st1), w)); unfold am_istore; simp only; rw [show Nat.blt n.val ls.length = true from Nat.ble_eq_true_of_le (by rw [← hl.1]; exact g4)]; rfl) (K.same g5 hg (ab_st1_loc hl g4 g1) g2 hJ)
  case iload n =>
    obtain ⟨s, v, g1, g2, g3, g4⟩ := ab_load_s h hl
    have g3 : Nat.beq s.1 0 = true := g3.resolve_right (fun q => by cases q.1)
    obtain ⟨x, rfl, -, -⟩ := ab_sl_i g2 g3
    exact aw_step hf (f1 := (pc + 2, ls, .int x :: st)) (w1 := w) (by show am_iload (pc + 2) n ls st w = some (.inl ((pc + 2, ls, .int x :: st), w)); unfold am_iload; rw [g1]; rfl) (K.same g4 hg hl ⟨g2, hs⟩ hJ)
  case istore n =>
    obtain ⟨s, r, v, st1, e, rfl, g1, g2, g3⟩ := ab_store_s h hs
    rcases g3 with ⟨g3, -⟩ | ⟨-, g3, g4, g5⟩
    · cases g3
    · have g3 : Nat.beq s.1 0 = true := g3.resolve_right (fun q => by cases q.1)
      obtain ⟨x, rfl, -, -⟩ := ab_sl_i g1 g3
      exact aw_step hf (f1 := (pc + 2, am_st1 ls n (.int x), st1)) (w1 := w) (by show am_istore (pc + 2) n ls (.int x :: st1) w = some (.inl ((pc + 2, am_st1 ls n (.int x), st1), w)); unfold am_istore; simp only; rw [show Nat.blt n ls.length = true from Nat.ble_eq_true_of_le (by rw [← hl.1]; exact g4)]; rfl) (K.same g5 hg (ab_st1_loc hl g4 g1) g2 hJ)
  case lload_n n =>
    obtain ⟨s, v, g1, g2, g3, g4⟩ := ab_load_s h hl
    have g3 : Nat.beq s.1 1 = true := g3.resolve_right (fun q => by cases q.1)
    obtain ⟨x, rfl, -, -⟩ := ab_sl_l g2 g3
    exact aw_step hf (f1 := (pc + 1, ls, .long x :: st)) (w1 := w) (by show am_lload (pc + 1) n.val ls st w = some (.inl ((pc + 1, ls, .long x :: st), w)); unfold am_lload; rw [g1]; rfl) (K.same g4 hg hl ⟨g2, hs⟩ hJ)
  case lstore_n n =>
    obtain ⟨s, r, v, st1, e, rfl, g1, g2, g3⟩ := ab_store_s h hs
    rcases g3 with ⟨-, g3, g4, g5⟩ | ⟨g3, -⟩
    · obtain ⟨x, rfl, -, -⟩ := ab_sl_l g1 g3
      exact aw_step hf (f1 := (pc + 1, am_st2 ls n.val (.long x), st1)) (w1 := w) (by show am_lstore (pc + 1) n.val ls (.long x :: st1) w = some (.inl ((pc + 1, am_st2 ls n.val (.long x), st1), w)); unfold am_lstore; simp only; rw [show Nat.blt (n.val + 1) ls.length = true from Nat.ble_eq_true_of_le (by rw [← hl.1]; exact g4)]; rfl) (K.same g5 hg (ab_st2_loc hl (by omega) g1) g2 hJ)
    · exact absurd rfl g3
  case lload n =>
    obtain ⟨s, v, g1, g2, g3, g4⟩ := ab_load_s h hl
    have g3 : Nat.beq s.1 1 = true := g3.resolve_right (fun q => by cases q.1)
    obtain ⟨x, rfl, -, -⟩ := ab_sl_l g2 g3
    exact aw_step hf (f1 := (pc + 2, ls, .long x :: st)) (w1 := w) (by show am_lload (pc + 2) n ls st w = some (.inl ((pc + 2, ls, .long x :: st), w)); unfold am_lload; rw [g1]; rfl) (K.same g4 hg hl ⟨g2, hs⟩ hJ)
  case lstore n =>
    obtain ⟨s, r, v, st1, e, rfl, g1, g2, g3⟩ := ab_store_s h hs
    rcases g3 with ⟨-, g3, g4, g5⟩ | ⟨g3, -⟩
    · obtain ⟨x, rfl, -, -⟩ := ab_sl_l g1 g3
      exact aw_step hf (f1 := (pc + 2, am_st2 ls n (.long x), st1)) (w1 := w) (by show am_lstore (pc + 2) n ls (.long x :: st1) w = some (.inl ((pc + 2, am_st2 ls n (.long x), st1), w)); unfold am_lstore; simp only; rw [show Nat.blt (n + 1) ls.length = true from Nat.ble_eq_true_of_le (by rw [← hl.1]; exact g4)]; rfl) (K.same g5 hg (ab_st2_loc hl (by omega) g1) g2 hJ)
    · exact absurd rfl g3
  case aload_n n =>
    obtain ⟨s, v, g1, g2, g3, g4⟩ := ab_load_s h hl
    obtain ⟨p, rfl⟩ := ab_refv g2 g3
    exact aw_step hf (f1 := (pc + 1, ls, .ref p :: st)) (w1 := w) (by show am_aload (pc + 1) n.val ls st w = some (.inl ((pc + 1, ls, .ref p :: st), w)); unfold am_aload; rw [g1]; rfl) (K.same g4 hg hl ⟨g2, hs⟩ hJ)
  case astore_n n =>
    obtain ⟨s, r, v, st1, e, rfl, g1, g2, g3⟩ := ab_store_s h hs
    rcases g3 with ⟨g3, -⟩ | ⟨-, g3, g4, g5⟩
    · cases g3
    · obtain ⟨p, rfl⟩ := ab_refv g1 g3
      exact aw_step hf (f1 := (pc + 1, am_st1 ls n.val (.ref p), st1)) (w1 := w) (by show am_astore (pc + 1) n.val ls (.ref p :: st1) w = some (.inl ((pc + 1, am_st1 ls n.val (.ref p), st1), w)); unfold am_astore; simp only; rw [show Nat.blt n.val ls.length = true from Nat.ble_eq_true_of_le (by rw [← hl.1]; exact g4)]; rfl) (K.same g5 hg (ab_st1_loc hl g4 g1) g2 hJ)
  case iconst n =>
    obtain ⟨g1, g2⟩ := am_bif h
    have g3 := ab_fits g1
    exact aw_step hf (f1 := (pc + 1, ls, .int (Int32.ofInt n) :: st)) (w1 := w) rfl (K.same g2 hg hl ⟨ab_const he (Int32.toInt_ofInt_of_le (by omega) (by omega)), hs⟩ hJ)
  case bipush n =>
    obtain ⟨g1, g2⟩ := am_bif h
    have g3 := of_decide_eq_true (am_and g1).1
    have g4 := of_decide_eq_true (am_and g1).2
    exact aw_step hf (f1 := (pc + 2, ls, .int (Int8.ofInt n).toInt32 :: st)) (w1 := w) rfl (K.same g2 hg hl ⟨ab_const he (by rw [Int8.toInt_toInt32]; exact Int8.toInt_ofInt_of_le (by omega) (by omega)), hs⟩ hJ)
  case sipush n =>
    obtain ⟨g1, g2⟩ := am_bif h
    have g3 := of_decide_eq_true (am_and g1).1
    have g4 := of_decide_eq_true (am_and g1).2
    exact aw_step hf (f1 := (pc + 3, ls, .int (Int16.ofInt n).toInt32 :: st)) (w1 := w) rfl (K.same g2 hg hl ⟨ab_const he (by rw [Int16.toInt_toInt32]; exact Int16.toInt_ofInt_of_le (by omega) (by omega)), hs⟩ hJ)
  case lconst n =>
    have hn : n.val < 2 ^ 63 := Nat.lt_of_lt_of_le n.isLt (by decide)
    exact aw_step hf (f1 := (pc + 1, ls, .long (Int64.ofNat n.val) :: st)) (w1 := w) rfl (K.same h hg hl ⟨ab_constL he (Int64.toInt_ofNat_of_lt hn), hs⟩ hJ)
  case ldc i =>
    have h2 : (match am_find (am_cstT (am_mi k).1) i with | some (.int x) => some [(pc + 2, (t.1, t.2.1, (0, 0, x.toInt) :: t.2.2.1, t.2.2.2))] | _ => none) = some L := h
    split at h2
    · rename_i x hc
      exact aw_step hf (f1 := (pc + 2, ls, .int x :: st)) (w1 := w) (by show am_cst (am_mi k).1 i (pc + 2) false ls st w = some (.inl ((pc + 2, ls, .int x :: st), w)); unfold am_cst; rw [hc]; rfl) (K.same h2 hg hl ⟨ab_const he rfl, hs⟩ hJ)
    · cases h2
  case ldc_w i =>
    have h2 : (match am_find (am_cstT (am_mi k).1) i with | some (.int x) => some [(pc + 3, (t.1, t.2.1, (0, 0, x.toInt) :: t.2.2.1, t.2.2.2))] | _ => none) = some L := h
    split at h2
    · rename_i x hc
      exact aw_step hf (f1 := (pc + 3, ls, .int x :: st)) (w1 := w) (by show am_cst (am_mi k).1 i (pc + 3) false ls st w = some (.inl ((pc + 3, ls, .int x :: st), w)); unfold am_cst; rw [hc]; rfl) (K.same h2 hg hl ⟨ab_const he rfl, hs⟩ hJ)
    · cases h2
  case ldc2_w i =>
    have h2 : (match am_find (am_cstT (am_mi k).1) i with | some (.long x) => some [(pc + 3, (t.1, t.2.1, (1, 0, x.toInt) :: t.2.2.1, t.2.2.2))] | _ => none) = some L := h
    split at h2
    · rename_i x hc
      exact aw_step hf (f1 := (pc + 3, ls, .long x :: st)) (w1 := w) (by show am_cst (am_mi k).1 i (pc + 3) true ls st w = some (.inl ((pc + 3, ls, .long x :: st), w)); unfold am_cst; rw [hc]; rfl) (K.same h2 hg hl ⟨ab_constL he rfl, hs⟩ hJ)
    · cases h2
  case getstatic i =>
    obtain ⟨g1, g2⟩ := am_bif h
    exact aw_step hf (f1 := (pc + 3, ls, .ref am_B :: st)) (w1 := w) (by show (bif Nat.beq (am_mi k).1 6 && Nat.beq i 108 then am_nx (pc + 3) ls (.ref am_B :: st) w else none) = some (.inl ((pc + 3, ls, .ref am_B :: st), w)); rw [g1]; rfl) (K.same g2 hg hl ⟨Or.inr (Or.inr (Or.inl ⟨rfl, rfl⟩)), hs⟩ hJ)
  case getfield i =>
    have h2 : ab_getf T (am_mi k).1 i (pc + 3) t = some L := h
    unfold ab_getf at h2
    split at h2
    · rename_i a r e
      rw [e] at hs
      obtain ⟨v, st1, rfl, g1, g2⟩ := ab_stk_cons hs
      obtain ⟨g3, g4⟩ := am_bif h2
      cases ab_sl_r g1 (am_and g3).1
      split at g4
      · rename_i ci kf cj ts hfl hT
        obtain ⟨g5, g6⟩ := am_bif g4
        cases Nat.eq_of_beq_eq_true g5
        split at g6
        · rename_i ft hft
          obtain ⟨q, w1, fs, rfl, f1, f2⟩ := hJ.1.2 _ _ hT
          obtain ⟨u, f3, f4⟩ := f2 kf ft hft
          exact aw_step hf (f1 := (pc + 3, ls, u :: st1)) (w1 := w) (by show am_getf (am_mi k).1 i (pc + 3) ls (.ref a.2.1 :: st1) w = some (.inl ((pc + 3, ls, u :: st1), w)); unfold am_getf; simp only; rw [hfl]; simp only; rw [w1]; simp only; rw [show (Nat.beq ci ci && Nat.blt a.2.1 am_B) = true by rw [Nat.beq_refl, (am_and g3).2]; rfl]; simp only [cond_true]; rw [f3]; rfl) (K.push g6 hg (ab_of_sl f4 he) g2 hJ)
        · cases g6
      · cases g4
    · cases h2
  case putfield i =>
    have h2 : ab_putf T sets wr (am_mi k).1 i (pc + 3) t = some L := h
    unfold ab_putf at h2
    split at h2
    · rename_i vs a r e
      rw [e] at hs
      obtain ⟨v, st1, rfl, g1, g2⟩ := ab_stk_cons hs
      obtain ⟨u, st2, rfl, g3, g4⟩ := ab_stk_cons g2
      obtain ⟨g5, g6⟩ := am_bif h2
      cases ab_sl_r g3 g5
      split at g6
      · rename_i ci kf cj ts hfl hT
        obtain ⟨g7, g8⟩ := am_bif g6
        cases Nat.eq_of_beq_eq_true g7
        split at g8
        · rename_i ft ty fin hft hty
          obtain ⟨c1, c2⟩ := am_bif g8
          obtain ⟨c0, c4⟩ := am_and c1
          obtain ⟨cw, c3⟩ := am_and c0
          obtain ⟨c5, c6⟩ := am_and c4
          have hin : a.2.1 ∈ wr.1 ∨ (a.2.1, kf) ∈ wr.2 := (Bool.or_eq_true _ _ |>.mp cw).imp List.contains_iff_mem.mp List.contains_iff_mem.mp
          obtain ⟨q, w1, fs, rfl, f1, f2⟩ := hJ.1.2 _ _ hT
          have hvF := ab_is_vF c5 g1 he
          have hk : kf < fs.length := by rw [f1]; exact (List.getElem?_eq_some_iff.mp hft).1
          have hfit : am_fit ty v = true := by
            cases ty
            case int => obtain ⟨x, rfl, -, -⟩ := ab_sl_i g1 c6; rfl
            case long => obtain ⟨x, rfl, -, -⟩ := ab_sl_l g1 c6; rfl
            case boolean =>
              obtain ⟨c7, c8⟩ := am_and c6
              obtain ⟨x, rfl, l1, x1⟩ := ab_sl_i g1 c7
              have iv := ab_iv_of he l1 x1
              have c9 := of_decide_eq_true (am_and c8).1
              have c10 := of_decide_eq_true (am_and c8).2
              have : x.toInt = 0 ∨ x.toInt = 1 := by omega
              refine decide_eq_true (this.imp (fun z => ?_) (fun z => ?_))
              · exact Int32.toInt_inj.mp (by rw [z]; rfl)
              · exact Int32.toInt_inj.mp (by rw [z]; rfl)
            case array z =>
              rcases Bool.or_eq_true _ _ |>.mp c6 with c7 | c7
              · cases ab_sl_r g1 c7; rfl
              · obtain ⟨p, rfl, -⟩ := ab_sl_q g1 c7; rfl
            all_goals cases c6
          have hfin : fin = false := by cases fin; rfl; cases c3
          refine aw_step hf (f1 := (pc + 3, ls, st2)) (w1 := w.set a.2.1 (.inr (ci, fs.set kf v))) ?_ (K.same c2 hg hl g4 (ab_putf_J hJ hin hT w1 ⟨_, rfl, by rw [List.length_set]; exact f1, fun j tj hj => ?_⟩))
          · show am_putf (am_mi k).1 (am_mi k).2.2.2 i (pc + 3) ls (v :: .ref a.2.1 :: st2) w = some (.inl ((pc + 3, ls, st2), w.set a.2.1 (.inr (ci, fs.set kf v))))
            unfold am_putf
            simp only
            rw [hfl]
            simp only
            rw [w1, hty]
            simp only
            rw [Nat.beq_refl, hfit, show Nat.blt kf fs.length = true from Nat.ble_eq_true_of_le hk, hfin]
            rfl
          · by_cases q : kf = j
            · subst q
              rw [hft] at hj
              cases hj
              exact ⟨v, by rw [List.getElem?_set_self hk], hvF⟩
            · obtain ⟨v2, z1, z2⟩ := f2 j tj hj
              exact ⟨v2, by rw [List.getElem?_set_ne q]; exact z1, z2⟩
        · cases g8
      · cases g6
    · cases h2
  case iaload =>
    obtain ⟨a, r, n, lo, hi, x, v, st1, rfl, g1, g2, g3, g4, g5⟩ := ab_ald_s h hg
    obtain ⟨p, l, rfl, r1, r2, r3⟩ := ab_rd_i g3 g1 hJ.1
    have hx := am_inlt g4
    have hb := r3 _ (ab_getD (d := 0) (by rw [r2]; exact hx))
    exact aw_step hf (f1 := (pc + 1, ls, .int (l.getD x.toNatClampNeg 0) :: st1)) (w1 := w) (by show am_iald none (pc + 1) ls (.int x :: .ref p :: st1) w = some (.inl ((pc + 1, ls, .int (l.getD x.toNatClampNeg 0) :: st1), w)); unfold am_iald; simp only; rw [r1]; simp only; rw [r2, if_neg g4]; rfl) (K.push g5 hg ⟨_, ab_new_i he hb.1 hb.2⟩ g2 hJ)
  case baload =>
    obtain ⟨a, r, n, lo, hi, x, v, st1, rfl, g1, g2, g3, g4, g5⟩ := ab_ald_s h hg
    obtain ⟨p, l, rfl, -, r1, r2, -, r3⟩ := ab_rd_z g3 g1 hJ.1
    have hx := am_inlt g4
    have hb := r3 _ (ab_getD (d := 0) (by rw [r2]; exact hx))
    exact aw_step hf (f1 := (pc + 1, ls, .int (l.getD x.toNatClampNeg 0) :: st1)) (w1 := w) (by show am_zald (pc + 1) ls (.int x :: .ref p :: st1) w = some (.inl ((pc + 1, ls, .int (l.getD x.toNatClampNeg 0) :: st1), w)); unfold am_zald; simp only; rw [r1]; simp only; rw [r2, if_neg g4]; rfl) (K.push g5 hg ⟨_, ab_new_i he hb.1 hb.2⟩ g2 hJ)
  case laload =>
    obtain ⟨a, r, n, lo, hi, x, v, st1, rfl, g1, g2, g3, g4, g5⟩ := ab_ald_s h hg
    obtain ⟨p, l, rfl, -, r1, r2, r3⟩ := ab_rd_l g3 g1 hJ.1
    have hx := am_inlt g4
    have hb := r3 _ (ab_getD (d := 0) (by rw [r2]; exact hx))
    exact aw_step hf (f1 := (pc + 1, ls, .long (l.getD x.toNatClampNeg 0) :: st1)) (w1 := w) (by show am_lald (pc + 1) ls (.int x :: .ref p :: st1) w = some (.inl ((pc + 1, ls, .long (l.getD x.toNatClampNeg 0) :: st1), w)); unfold am_lald; simp only; rw [r1]; simp only; rw [r2, if_neg g4]; rfl) (K.push g5 hg ⟨_, ab_new_l he hb.1 hb.2⟩ g2 hJ)
  case iastore =>
    obtain ⟨s, a, r, n, lo, hi, x, v, u, st1, rfl, g1, g2, g3, g4, g5, g6, g7, g8, g9⟩ := ab_ast_s h hg
    obtain ⟨y, rfl, l1, y1⟩ := ab_sl_i g1 g2
    have iv := ab_iv_of he l1 y1
    obtain ⟨p, rfl, hc⟩ := ab_cellR_inv g5 g3
    have hin := ab_wr_in g7 g3
    rcases hc with ⟨p1, hT⟩ | ⟨p1, -⟩
    · obtain ⟨q, w1, hq⟩ := hJ.1.2 _ _ hT
      rcases hq with ⟨-, l, rfl, r2, r3⟩ | ⟨z, -⟩ | ⟨z, -⟩ | z
      · refine aw_step hf (f1 := (pc + 1, ls, st1)) (w1 := w.set p (.inl (.inl (0, l.set x.toNatClampNeg y)))) (by show am_iast (pc + 1) ls (.int y :: .int x :: .ref p :: st1) w = some (.inl ((pc + 1, ls, st1), w.set p (.inl (.inl (0, l.set x.toNatClampNeg y))))); unfold am_iast; simp only; rw [w1]; simp only; rw [r2, if_neg g6]; rfl) (K.same g9 hg hl g4 (ab_put hJ hin hT (Or.inl ⟨rfl, _, rfl, by rw [List.length_set]; exact r2, fun z hz => ?_⟩)))
        rcases List.mem_or_eq_of_mem_set hz with m | m
        · exact r3 z m
        · subst m
          rcases g8 with z | z
          · cases z
          · omega
      · cases z
      · cases z
      · cases z
    · exact absurd (hwr p hin) (by rw [p1]; exact Nat.lt_irrefl _)
  case bastore =>
    obtain ⟨s, a, r, n, lo, hi, x, v, u, st1, rfl, g1, g2, g3, g4, g5, g6, g7, g8, g9⟩ := ab_ast_s h hg
    obtain ⟨y, rfl, l1, y1⟩ := ab_sl_i g1 g2
    obtain ⟨p, l, rfl, hT, w1, r2, r5, r3⟩ := ab_rd_z g5 g3 hJ.1
    have hin := ab_wr_in g7 g3
    have hb := ab_andb (x := y) (y := 1) (by decide)
    have h1 : (1 : Int32).toInt = 1 := rfl
    refine aw_step hf (f1 := (pc + 1, ls, st1)) (w1 := w.set p (.inl (.inl (1, l.set x.toNatClampNeg (y &&& 1))))) (by show am_zast (pc + 1) ls (.int y :: .int x :: .ref p :: st1) w = some (.inl ((pc + 1, ls, st1), w.set p (.inl (.inl (1, l.set x.toNatClampNeg (y &&& 1)))))); unfold am_zast; simp only; rw [w1]; simp only; rw [r2, if_neg g6]; rfl) (K.same g9 hg hl g4 (ab_put hJ hin hT (Or.inr (Or.inl ⟨rfl, r5.1, r5.2, _, rfl, by rw [List.length_set]; exact r2, fun z hz => ?_⟩))))
    rcases List.mem_or_eq_of_mem_set hz with m | m
    · exact r3 z m
    · subst m
      omega
  case lastore =>
    obtain ⟨s, a, r, n, lo, hi, x, v, u, st1, rfl, g1, g2, g3, g4, g5, g6, g7, g8, g9⟩ := ab_ast_s h hg
    obtain ⟨y, rfl, l1, y1⟩ := ab_sl_l g1 g2
    have iv := ab_iv_of he l1 y1
    obtain ⟨p, l, rfl, hT, w1, r2, r3⟩ := ab_rd_l g5 g3 hJ.1
    have hin := ab_wr_in g7 g3
    refine aw_step hf (f1 := (pc + 1, ls, st1)) (w1 := w.set p (.inl (.inr (.inl (l.set x.toNatClampNeg y))))) (by show am_last (pc + 1) ls (.long y :: .int x :: .ref p :: st1) w = some (.inl ((pc + 1, ls, st1), w.set p (.inl (.inr (.inl (l.set x.toNatClampNeg y)))))); unfold am_last; simp only; rw [w1]; simp only; rw [r2, if_neg g6]; rfl) (K.same g9 hg hl g4 (ab_put hJ hin hT (Or.inr (Or.inr (Or.inl ⟨rfl, _, rfl, by rw [List.length_set]; exact r2, fun z hz => ?_⟩)))))
    rcases List.mem_or_eq_of_mem_set hz with m | m
    · exact r3 z m
    · subst m
      rcases g8 with z | z
      · cases z
      · omega
  case arraylength =>
    have h2 : ab_alen T sets (pc + 1) t = some L := h
    unfold ab_alen at h2
    split at h2
    · rename_i a r e
      rw [e] at hs
      obtain ⟨v, st1, rfl, g1, g2⟩ := ab_stk_cons hs
      split at h2
      · rename_i n lo hi hc
        obtain ⟨g3, g4⟩ := am_bif h2
        have g5 := ab_fits g3
        obtain ⟨p, l, rfl, r1, r2, r3⟩ := ab_rd_i hc g1 hJ.1
        have key : am_alen none (pc + 1) ls (.ref p :: st1) w = some (.inl ((pc + 1, ls, .int (Int32.ofNat l.length) :: st1), w)) := by
          unfold am_alen
          simp only
          split
          · rename_i l3 hl3
            rcases am_ints_inv r1 with ⟨q1, q2⟩ | ⟨q1, q2⟩ | ⟨q1, q2⟩
            · rw [hl3] at q2; cases q2
            · exfalso
              have := (List.getElem?_eq_some_iff.mp hl3).1
              have := hJ.1.1
              omega
            · cases q2
          · rw [r1]; rfl
        exact aw_step hf key (K.same g4 hg hl ⟨ab_const he (by rw [r2]; exact Int32.toInt_ofNat_of_lt (by omega)), g2⟩ hJ)
      · rename_i hc0
        split at h2
        · rename_i n lo hi hc
          obtain ⟨g3, g4⟩ := am_bif h2
          have g5 := ab_fits g3
          obtain ⟨p, l, rfl, -, r1, r2, r3⟩ := ab_rd_l hc g1 hJ.1
          exact aw_step hf (f1 := (pc + 1, ls, .int (Int32.ofNat l.length) :: st1)) (w1 := w) (by show am_alen none (pc + 1) ls (.ref p :: st1) w = some (.inl ((pc + 1, ls, .int (Int32.ofNat l.length) :: st1), w)); unfold am_alen; simp only; rw [r1]; rfl) (K.same g4 hg hl ⟨ab_const he (by rw [r2]; exact Int32.toInt_ofNat_of_lt (by omega)), g2⟩ hJ)
        · cases h2
    · cases h2
  case ifCond q o =>
    have h2 : (match t.2.2.1 with | a :: r => bif Nat.beq a.1 0 then ab_br q a (0, 0, 0) ((pc : Int) + o) (pc + 3) t r else none | _ => none) = some L := h
    split at h2
    · rename_i a r e
      rw [e] at hs
      obtain ⟨v, st1, rfl, g1, g2⟩ := ab_stk_cons hs
      obtain ⟨g3, g4⟩ := am_bif h2
      obtain ⟨x, rfl, l1, x1⟩ := ab_sl_i g1 g3
      obtain ⟨p1, ep, b1, b2⟩ := ab_br_s g4 K hg l1 he.2.1 g2 hJ
      have hc := ab_cc q x 0
      rw [← x1, show σ.getD ((0, 0, 0) : ab_S).2.1 0 + ((0, 0, 0) : ab_S).2.2 = (0 : Int32).toInt by show σ.getD 0 0 + 0 = 0; rw [he.2.2.1]; rfl] at b1 b2
      cases hq : am_cc q x 0 with
      | true => exact aw_step hf (f1 := (p1, ls, st1)) (w1 := w) (by show am_if q pc o ls (.int x :: st1) w = some (.inl ((p1, ls, st1), w)); unfold am_if; rw [ep]; simp only; rw [hq]; rfl) (b1 (hc.mp hq))
      | false => exact aw_step hf (f1 := (pc + 3, ls, st1)) (w1 := w) (by show am_if q pc o ls (.int x :: st1) w = some (.inl ((pc + 3, ls, st1), w)); unfold am_if; rw [ep]; simp only; rw [hq]; rfl) (b2 (fun z => by rw [hc.mpr z] at hq; cases hq))
    · cases h2
  case if_icmp q o =>
    have h2 : (match t.2.2.1 with | b :: a :: r => bif Nat.beq a.1 0 && Nat.beq b.1 0 then ab_br q a b ((pc : Int) + o) (pc + 3) t r else none | _ => none) = some L := h
    split at h2
    · rename_i b a r e
      rw [e] at hs
      obtain ⟨v, st1, rfl, g1, g2⟩ := ab_stk_cons hs
      obtain ⟨u, st2, rfl, g5, g6⟩ := ab_stk_cons g2
      obtain ⟨g3, g4⟩ := am_bif h2
      obtain ⟨x, rfl, l1, x1⟩ := ab_sl_i g5 (am_and g3).1
      obtain ⟨y, rfl, l2, x2⟩ := ab_sl_i g1 (am_and g3).2
      obtain ⟨p1, ep, b1, b2⟩ := ab_br_s g4 K hg l1 l2 g6 hJ
      have hc := ab_cc q x y
      rw [← x1, ← x2] at b1 b2
      cases hq : am_cc q x y with
      | true => exact aw_step hf (f1 := (p1, ls, st2)) (w1 := w) (by show am_icmp q pc o ls (.int y :: .int x :: st2) w = some (.inl ((p1, ls, st2), w)); unfold am_icmp; rw [ep]; simp only; rw [hq]; rfl) (b1 (hc.mp hq))
      | false => exact aw_step hf (f1 := (pc + 3, ls, st2)) (w1 := w) (by show am_icmp q pc o ls (.int y :: .int x :: st2) w = some (.inl ((pc + 3, ls, st2), w)); unfold am_icmp; rw [ep]; simp only; rw [hq]; rfl) (b2 (fun z => by rw [hc.mpr z] at hq; cases hq))
    · cases h2
  case tableswitch df lo hi offs =>
    have h2 : (match t.2.2.1 with | a :: r => bif Nat.beq a.1 0 then ab_sw df lo hi offs.toList pc a t r else none | _ => none) = some L := h
    split at h2
    · rename_i a r e
      rw [e] at hs
      obtain ⟨v, st1, rfl, g1, g2⟩ := ab_stk_cons hs
      obtain ⟨g3, g4⟩ := am_bif h2
      obtain ⟨x, rfl, l1, x1⟩ := ab_sl_i g1 g3
      have iv := ab_iv_of he l1 x1
      unfold ab_sw at g4
      split at g4
      · rename_i pd l e1 e2
        obtain ⟨c1, c2⟩ := am_bif g4
        have c1 := of_decide_eq_true c1
        cases c2
        by_cases hq : x.toInt < lo ∨ hi < x.toInt
        · have : ∃ E1 ∈ ab_up t.1 a (ab_iv t.1 a).1 (lo - 1) ++ ab_up t.1 a (hi + 1) (ab_iv t.1 a).2, ab_env E1 σ := by
            rcases hq with q | q
            · obtain ⟨E1, m1, m2⟩ := ab_up_in he l1 (lo := (ab_iv t.1 a).1) (hi := lo - 1) (by omega) (by omega)
              exact ⟨E1, List.mem_append_left _ m1, m2⟩
            · obtain ⟨E1, m1, m2⟩ := ab_up_in he l1 (lo := hi + 1) (hi := (ab_iv t.1 a).2) (by omega) (by omega)
              exact ⟨E1, List.mem_append_right _ m1, m2⟩
          obtain ⟨E1, m1, m2⟩ := this
          exact aw_step hf (f1 := (pd, ls, st1)) (w1 := w) (by show am_sw df lo hi offs pc ls (.int x :: st1) w = some (.inl ((pd, ls, st1), w)); unfold am_sw; simp only; rw [if_pos hq]; unfold am_jmp; rw [ab_jt_s e1]; rfl) (K (pd, (E1, t.2.1, r, t.2.2.2)) (List.mem_append_left _ (List.mem_map.mpr ⟨E1, m1, rfl⟩)) [] ls st1 w (by rw [List.append_nil]; exact ⟨m2, hl, g2, hg.2.2.2⟩) hJ)
        · have hlt : (x.toInt - lo).toNat < offs.toList.length := by omega
          have hoo := List.getElem?_eq_getElem hlt
          obtain ⟨p2, b1, b2⟩ := ab_swl_s e2 _ _ hoo
          have e3 : lo + ((x.toInt - lo).toNat : Int) = x.toInt := by omega
          rw [e3] at b2
          obtain ⟨E1, m1, m2⟩ := ab_up_in he l1 (lo := x.toInt) (hi := x.toInt) (by omega) (by omega)
          exact aw_step hf (f1 := (p2, ls, st1)) (w1 := w) (by show am_sw df lo hi offs pc ls (.int x :: st1) w = some (.inl ((p2, ls, st1), w)); unfold am_sw; simp only; rw [if_neg hq, hoo]; simp only; unfold am_jmp; rw [b1]; rfl) (K (p2, (E1, t.2.1, r, t.2.2.2)) (List.mem_append_right _ (List.mem_flatMap.mpr ⟨(x.toInt, p2), b2, List.mem_map.mpr ⟨E1, m1, rfl⟩⟩)) [] ls st1 w (by rw [List.append_nil]; exact ⟨m2, hl, g2, hg.2.2.2⟩) hJ)
      · cases g4
    · cases h2
  case goto o =>
    have h2 : (match (pc : Int) + o with | .ofNat p1 => some [(p1, t)] | .negSucc _ => none) = some L := h
    split at h2
    · rename_i p1 e
      exact aw_step hf (f1 := (p1, ls, st)) (w1 := w) (by show am_jmp pc o ls st w = some (.inl ((p1, ls, st), w)); unfold am_jmp; rw [e]; rfl) (K.one h2 [] (by rw [List.append_nil]; exact hg) hJ)
    · cases h2
  case lcmp =>
    have h2 : (match t.2.2.1, am_find (am_code k) (pc + 1) with
      | b :: a :: r, some (.ifCond q o, _) => bif Nat.beq a.1 1 && Nat.beq b.1 1 then ab_br q a b (((pc + 1 : Nat) : Int) + o) (pc + 1 + 3) t r else none
      | _, _ => none) = some L := h
    split at h2
    · rename_i b a r q o len2 e hf2
      rw [e] at hs
      obtain ⟨v, st1, rfl, g1, g2⟩ := ab_stk_cons hs
      obtain ⟨u, st2, rfl, g5, g6⟩ := ab_stk_cons g2
      obtain ⟨g3, g4⟩ := am_bif h2
      obtain ⟨x, rfl, l1, x1⟩ := ab_sl_l g5 (am_and g3).1
      obtain ⟨y, rfl, l2, x2⟩ := ab_sl_l g1 (am_and g3).2
      obtain ⟨p1, ep, b1, b2⟩ := ab_br_s g4 K hg l1 l2 g6 hJ
      have hc := ab_lc q x y
      rw [← x1, ← x2] at b1 b2
      refine aw_step hf (f1 := (pc + 1, ls, .int (lg_cmp x y) :: st2)) (w1 := w) rfl ?_
      cases hq : am_cc q (lg_cmp x y) 0 with
      | true => exact aw_step hf2 (f1 := (p1, ls, st2)) (w1 := w) (by show am_if q (pc + 1) o ls (.int (lg_cmp x y) :: st2) w = some (.inl ((p1, ls, st2), w)); unfold am_if; rw [ep]; simp only; rw [hq]; rfl) (b1 (hc.mp hq))
      | false => exact aw_step hf2 (f1 := (pc + 1 + 3, ls, st2)) (w1 := w) (by show am_if q (pc + 1) o ls (.int (lg_cmp x y) :: st2) w = some (.inl ((pc + 1 + 3, ls, st2), w)); unfold am_if; rw [ep]; simp only; rw [hq]; rfl) (b2 (fun z => by rw [hc.mpr z] at hq; cases hq))
    · cases h2
  case iinc i n =>
    have h2 : (match t.2.1[i]? with
      | some (some s) => bif Nat.beq s.1 0 && (Nat.blt i t.2.1.length && ab_f32 n n) then some [(pc + 3, ((ab_off t.1 s n).1, ab_st1 t.2.1 i (ab_off t.1 s n).2, t.2.2.1, t.2.2.2))] else none
      | _ => none) = some L := h
    split at h2
    · rename_i s hi
      obtain ⟨g1, g2⟩ := am_bif h2
      obtain ⟨g3, g4⟩ := am_and g1
      obtain ⟨g5, g6⟩ := am_and g4
      have g7 := ab_fits g6
      obtain ⟨v, q1, q2⟩ := hl.2 i s hi
      obtain ⟨x, rfl, l1, x1⟩ := ab_sl_i q2 g3
      obtain ⟨τ, e1, e2⟩ := ab_off_i (sets := sets) (c := n) (x := x + Int32.ofInt n) he l1 (by rw [Int32.toInt_add, x1, Int32.toInt_ofInt_of_le (by omega) (by omega)])
      exact aw_step hf (f1 := (pc + 3, am_st1 ls i (.int (x + Int32.ofInt n)), st)) (w1 := w) (by show am_iinc (pc + 3) i n ls st w = some (.inl ((pc + 3, am_st1 ls i (.int (x + Int32.ofInt n)), st), w)); unfold am_iinc; rw [q1]; simp only; rw [show Nat.blt i ls.length = true from Nat.ble_eq_true_of_le (by rw [← hl.1]; exact am_blt g5)]; rfl) (K.one g2 τ ⟨e1, ab_st1_loc (hl.app τ) (am_blt g5) e2, hs.app τ, hg.2.2.2.app τ⟩ hJ)
    · cases h2
  case iadd =>
    have h2 : ab_ibin (fun E a b => some (ab_add E a b)) (pc + 1) t = some L := h
    obtain ⟨a, b, r, x, y, st1, q, rfl, l1, l2, x1, x2, g1, g2, g3⟩ := ab_ibin_s h2 hs
    cases g2
    exact aw_step hf (w1 := w) rfl (K.push g3 hg (ab_add_i he l1 l2 x1 x2) g1 hJ)
  case isub =>
    have h2 : ab_ibin (fun E a b => some (ab_sub E a b)) (pc + 1) t = some L := h
    obtain ⟨a, b, r, x, y, st1, q, rfl, l1, l2, x1, x2, g1, g2, g3⟩ := ab_ibin_s h2 hs
    cases g2
    exact aw_step hf (w1 := w) rfl (K.push g3 hg (ab_sub_i he l1 l2 x1 x2) g1 hJ)
  case imul =>
    have h2 : ab_ibin (fun E a b => some (ab_mul E a b)) (pc + 1) t = some L := h
    obtain ⟨a, b, r, x, y, st1, q, rfl, l1, l2, x1, x2, g1, g2, g3⟩ := ab_ibin_s h2 hs
    cases g2
    exact aw_step hf (w1 := w) rfl (K.push g3 hg (ab_mul_i he l1 l2 x1 x2) g1 hJ)
  case iand =>
    have h2 : ab_ibin (fun E a b => some (ab_and E a b)) (pc + 1) t = some L := h
    obtain ⟨a, b, r, x, y, st1, q, rfl, l1, l2, x1, x2, g1, g2, g3⟩ := ab_ibin_s h2 hs
    cases g2
    exact aw_step hf (w1 := w) rfl (K.push g3 hg (ab_and_i he l1 l2 x1 x2) g1 hJ)
  case ior =>
    have h2 : ab_ibin (fun E _ _ => some (ab_top32 E)) (pc + 1) t = some L := h
    obtain ⟨a, b, r, x, y, st1, q, rfl, l1, l2, x1, x2, g1, g2, g3⟩ := ab_ibin_s h2 hs
    cases g2
    exact aw_step hf (f1 := (pc + 1, ls, .int (x ||| y) :: st1)) (w1 := w) rfl (K.push g3 hg (ab_t32 he _) g1 hJ)
  case ixor =>
    have h2 : ab_ibin (fun E _ _ => some (ab_top32 E)) (pc + 1) t = some L := h
    obtain ⟨a, b, r, x, y, st1, q, rfl, l1, l2, x1, x2, g1, g2, g3⟩ := ab_ibin_s h2 hs
    cases g2
    exact aw_step hf (f1 := (pc + 1, ls, .int (x ^^^ y) :: st1)) (w1 := w) rfl (K.push g3 hg (ab_t32 he _) g1 hJ)
  case ishl =>
    have h2 : ab_ibin (fun E _ _ => some (ab_top32 E)) (pc + 1) t = some L := h
    obtain ⟨a, b, r, x, y, st1, q, rfl, l1, l2, x1, x2, g1, g2, g3⟩ := ab_ibin_s h2 hs
    cases g2
    exact aw_step hf (f1 := (pc + 1, ls, .int (x <<< (y &&& 31)) :: st1)) (w1 := w) rfl (K.push g3 hg (ab_t32 he _) g1 hJ)
  case ishr =>
    have h2 : ab_ibin (fun E _ _ => some (ab_top32 E)) (pc + 1) t = some L := h
    obtain ⟨a, b, r, x, y, st1, q, rfl, l1, l2, x1, x2, g1, g2, g3⟩ := ab_ibin_s h2 hs
    cases g2
    exact aw_step hf (f1 := (pc + 1, ls, .int (x >>> (y &&& 31)) :: st1)) (w1 := w) rfl (K.push g3 hg (ab_t32 he _) g1 hJ)
  case iushr =>
    have h2 : ab_ibin (fun E _ _ => some (ab_top32 E)) (pc + 1) t = some L := h
    obtain ⟨a, b, r, x, y, st1, q, rfl, l1, l2, x1, x2, g1, g2, g3⟩ := ab_ibin_s h2 hs
    cases g2
    exact aw_step hf (f1 := (pc + 1, ls, .int ((x.toUInt32 >>> (y.toUInt32 &&& Int32.toUInt32 31)).toInt32) :: st1)) (w1 := w) rfl (K.push g3 hg (ab_t32 he _) g1 hJ)
  case idiv =>
    have h2 : ab_ibin ab_div (pc + 1) t = some L := h
    obtain ⟨a, b, r, x, y, st1, q, rfl, l1, l2, x1, x2, g1, g2, g3⟩ := ab_ibin_s h2 hs
    obtain ⟨n1, n2⟩ := ab_div_i (sets := sets) g2 he l1 l2 x1 x2
    exact aw_step hf (f1 := (pc + 1, ls, .int (x / y) :: st1)) (w1 := w) (by show am_idv (fun x y => x / y) (pc + 1) ls (.int y :: .int x :: st1) w = some (.inl ((pc + 1, ls, .int (x / y) :: st1), w)); unfold am_idv; simp only; rw [if_neg n1]; rfl) (K.push g3 hg n2 g1 hJ)
  case irem =>
    have h2 : ab_ibin ab_rem (pc + 1) t = some L := h
    obtain ⟨a, b, r, x, y, st1, q, rfl, l1, l2, x1, x2, g1, g2, g3⟩ := ab_ibin_s h2 hs
    obtain ⟨n1, n2⟩ := ab_rem_i (sets := sets) g2 he l1 l2 x1 x2
    exact aw_step hf (f1 := (pc + 1, ls, .int (x - x / y * y) :: st1)) (w1 := w) (by show am_idv (fun x y => x - x / y * y) (pc + 1) ls (.int y :: .int x :: st1) w = some (.inl ((pc + 1, ls, .int (x - x / y * y) :: st1), w)); unfold am_idv; simp only; rw [if_neg n1]; rfl) (K.push g3 hg n2 g1 hJ)
  case ladd =>
    obtain ⟨r, x, y, st1, rfl, g1, -, g3⟩ := ab_lbin_s h hg
    exact aw_step hf (f1 := (pc + 1, ls, .long (x + y) :: st1)) (w1 := w) rfl (K.push g3 hg (ab_t64 he _) g1 hJ)
  case lsub =>
    obtain ⟨r, x, y, st1, rfl, g1, -, g3⟩ := ab_lbin_s h hg
    exact aw_step hf (f1 := (pc + 1, ls, .long (x - y) :: st1)) (w1 := w) rfl (K.push g3 hg (ab_t64 he _) g1 hJ)
  case lmul =>
    obtain ⟨r, x, y, st1, rfl, g1, -, g3⟩ := ab_lbin_s h hg
    exact aw_step hf (f1 := (pc + 1, ls, .long (x * y) :: st1)) (w1 := w) rfl (K.push g3 hg (ab_t64 he _) g1 hJ)
  case land =>
    obtain ⟨r, x, y, st1, rfl, g1, -, g3⟩ := ab_lbin_s h hg
    exact aw_step hf (f1 := (pc + 1, ls, .long (x &&& y) :: st1)) (w1 := w) rfl (K.push g3 hg (ab_t64 he _) g1 hJ)
  case lor =>
    obtain ⟨r, x, y, st1, rfl, g1, -, g3⟩ := ab_lbin_s h hg
    exact aw_step hf (f1 := (pc + 1, ls, .long (x ||| y) :: st1)) (w1 := w) rfl (K.push g3 hg (ab_t64 he _) g1 hJ)
  case lxor =>
    obtain ⟨r, x, y, st1, rfl, g1, -, g3⟩ := ab_lbin_s h hg
    exact aw_step hf (f1 := (pc + 1, ls, .long (x ^^^ y) :: st1)) (w1 := w) rfl (K.push g3 hg (ab_t64 he _) g1 hJ)
  case ldiv =>
    obtain ⟨r, x, y, st1, rfl, g1, g2, g3⟩ := ab_lbin_s h hg
    exact aw_step hf (f1 := (pc + 1, ls, .long (x / y) :: st1)) (w1 := w) (by show am_ldv (fun x y => x / y) (pc + 1) ls (.long y :: .long x :: st1) w = some (.inl ((pc + 1, ls, .long (x / y) :: st1), w)); unfold am_ldv; simp only; rw [if_neg (g2 rfl)]; rfl) (K.push g3 hg (ab_t64 he _) g1 hJ)
  case lrem =>
    obtain ⟨r, x, y, st1, rfl, g1, g2, g3⟩ := ab_lbin_s h hg
    exact aw_step hf (f1 := (pc + 1, ls, .long (x - x / y * y) :: st1)) (w1 := w) (by show am_ldv (fun x y => x - x / y * y) (pc + 1) ls (.long y :: .long x :: st1) w = some (.inl ((pc + 1, ls, .long (x - x / y * y) :: st1), w)); unfold am_ldv; simp only; rw [if_neg (g2 rfl)]; rfl) (K.push g3 hg (ab_t64 he _) g1 hJ)
  case lshl =>
    obtain ⟨r, x, y, st1, rfl, g1, g3⟩ := ab_lsh_s h hs
    exact aw_step hf (f1 := (pc + 1, ls, .long (x <<< (y.toInt64 &&& 63)) :: st1)) (w1 := w) rfl (K.push g3 hg (ab_t64 he _) g1 hJ)
  case lshr =>
    obtain ⟨r, x, y, st1, rfl, g1, g3⟩ := ab_lsh_s h hs
    exact aw_step hf (f1 := (pc + 1, ls, .long (x >>> (y.toInt64 &&& 63)) :: st1)) (w1 := w) rfl (K.push g3 hg (ab_t64 he _) g1 hJ)
  case lushr =>
    obtain ⟨r, x, y, st1, rfl, g1, g3⟩ := ab_lsh_s h hs
    exact aw_step hf (f1 := (pc + 1, ls, .long ((x.toUInt64 >>> (y.toInt64.toUInt64 &&& Int64.toUInt64 63)).toInt64) :: st1)) (w1 := w) rfl (K.push g3 hg (ab_t64 he _) g1 hJ)
  case i2l =>
    have h2 : (match t.2.2.1 with | a :: r => bif Nat.beq a.1 0 then some [(pc + 1, (t.1, t.2.1, (1, a.2.1, a.2.2) :: r, t.2.2.2))] else none | _ => none) = some L := h
    split at h2
    · rename_i a r e
      rw [e] at hs
      obtain ⟨v, st1, rfl, g1, g2⟩ := ab_stk_cons hs
      obtain ⟨g3, g4⟩ := am_bif h2
      obtain ⟨x, rfl, l1, x1⟩ := ab_sl_i g1 g3
      exact aw_step hf (f1 := (pc + 1, ls, .long x.toInt64 :: st1)) (w1 := w) rfl (K.same g4 hg hl ⟨Or.inr (Or.inl ⟨rfl, l1, _, rfl, by rw [Int32.toInt_toInt64]; exact x1⟩), g2⟩ hJ)
    · cases h2
  case l2i =>
    have h2 : (match t.2.2.1 with | a :: r => bif Nat.beq a.1 1 then (bif ab_f32 (ab_iv t.1 a).1 (ab_iv t.1 a).2 then some [(pc + 1, (t.1, t.2.1, (0, a.2.1, a.2.2) :: r, t.2.2.2))] else ab_1 (pc + 1) (ab_top32 t.1) t.2.1 r t.2.2.2) else none | _ => none) = some L := h
    split at h2
    · rename_i a r e
      rw [e] at hs
      obtain ⟨v, st1, rfl, g1, g2⟩ := ab_stk_cons hs
      obtain ⟨g3, g4⟩ := am_bif h2
      obtain ⟨x, rfl, l1, x1⟩ := ab_sl_l g1 g3
      have iv := ab_iv_of he l1 x1
      cases hc : ab_f32 (ab_iv t.1 a).1 (ab_iv t.1 a).2 with
      | true =>
        rw [hc] at g4
        have g5 := ab_fits hc
        exact aw_step hf (f1 := (pc + 1, ls, .int x.toInt32 :: st1)) (w1 := w) rfl (K.same g4 hg hl ⟨Or.inl ⟨rfl, l1, _, rfl, by rw [Int64.toInt_toInt32, ab_bmod (by omega) (by omega)]; exact x1⟩, g2⟩ hJ)
      | false =>
        rw [hc] at g4
        exact aw_step hf (f1 := (pc + 1, ls, .int x.toInt32 :: st1)) (w1 := w) rfl (K.push g4 hg (ab_t32 he _) g2 hJ)
    · cases h2
  case dup =>
    have h2 : (match t.2.2.1 with | a :: r => bif Nat.beq a.1 1 then none else some [(pc + 1, (t.1, t.2.1, a :: a :: r, t.2.2.2))] | _ => none) = some L := h
    split at h2
    · rename_i a r e
      rw [e] at hs
      obtain ⟨v, st1, rfl, g1, g2⟩ := ab_stk_cons hs
      cases hc : Nat.beq a.1 1 with
      | true => rw [hc] at h2; cases h2
      | false =>
        rw [hc] at h2
        have g3 := ab_sl_c g1
        rw [hc] at g3
        exact aw_step hf (f1 := (pc + 1, ls, v :: v :: st1)) (w1 := w) (by show am_dup (pc + 1) ls (v :: st1) w = some (.inl ((pc + 1, ls, v :: v :: st1), w)); unfold am_dup; simp only; rw [if_pos (by exact g3)]; rfl) (K.same h2 hg hl ⟨g1, g1, g2⟩ hJ)
    · cases h2
  case dup2 =>
    have h2 : (match t.2.2.1 with | a :: r => bif Nat.beq a.1 1 then some [(pc + 1, (t.1, t.2.1, a :: a :: r, t.2.2.2))] else (match r with | b :: r2 => bif Nat.beq b.1 1 then none else some [(pc + 1, (t.1, t.2.1, a :: b :: a :: b :: r2, t.2.2.2))] | _ => none) | _ => none) = some L := h
    split at h2
    · rename_i a r e
      rw [e] at hs
      obtain ⟨v, st1, rfl, g1, g2⟩ := ab_stk_cons hs
      have g3 := ab_sl_c g1
      cases hc : Nat.beq a.1 1 with
      | true =>
        rw [hc] at h2 g3
        exact aw_step hf (f1 := (pc + 1, ls, v :: v :: st1)) (w1 := w) (by show am_dup2 (pc + 1) ls (v :: st1) w = some (.inl ((pc + 1, ls, v :: v :: st1), w)); unfold am_dup2; simp only; rw [if_pos (by exact g3)]; rfl) (K.same h2 hg hl ⟨g1, g1, g2⟩ hJ)
      | false =>
        rw [hc] at h2 g3
        simp only [cond_false] at h2 g3
        split at h2
        · rename_i b r2
          obtain ⟨u, st2, rfl, g5, g6⟩ := ab_stk_cons g2
          have g7 := ab_sl_c g5
          cases hd2 : Nat.beq b.1 1 with
          | true => rw [hd2] at h2; cases h2
          | false =>
            rw [hd2] at h2 g7
            exact aw_step hf (f1 := (pc + 1, ls, v :: u :: v :: u :: st2)) (w1 := w) (by show am_dup2 (pc + 1) ls (v :: u :: st2) w = some (.inl ((pc + 1, ls, v :: u :: v :: u :: st2), w)); unfold am_dup2; simp only; rw [if_neg (by rw [g3]; decide), if_pos (by exact g7)]; rfl) (K.same h2 hg hl ⟨g1, g5, g1, g5, g6⟩ hJ)
        · cases h2
    · cases h2
  case pop =>
    have h2 : (match t.2.2.1 with | a :: r => bif Nat.beq a.1 1 then none else some [(pc + 1, (t.1, t.2.1, r, t.2.2.2))] | _ => none) = some L := h
    split at h2
    · rename_i a r e
      rw [e] at hs
      obtain ⟨v, st1, rfl, g1, g2⟩ := ab_stk_cons hs
      cases hc : Nat.beq a.1 1 with
      | true => rw [hc] at h2; cases h2
      | false =>
        rw [hc] at h2
        have g3 := ab_sl_c g1
        rw [hc] at g3
        exact aw_step hf (f1 := (pc + 1, ls, st1)) (w1 := w) (by show am_pop (pc + 1) ls (v :: st1) w = some (.inl ((pc + 1, ls, st1), w)); unfold am_pop; simp only; rw [if_pos (by exact g3)]; rfl) (K.same h2 hg hl g2 hJ)
    · cases h2
  case pop2 =>
    have h2 : (match t.2.2.1 with | a :: r => bif Nat.beq a.1 1 then some [(pc + 1, (t.1, t.2.1, r, t.2.2.2))] else none | _ => none) = some L := h
    split at h2
    · rename_i a r e
      rw [e] at hs
      obtain ⟨v, st1, rfl, g1, g2⟩ := ab_stk_cons hs
      obtain ⟨g3, g4⟩ := am_bif h2
      obtain ⟨x, rfl, -, -⟩ := ab_sl_l g1 g3
      exact aw_step hf (f1 := (pc + 1, ls, st1)) (w1 := w) rfl (K.same g4 hg hl g2 hJ)
    · cases h2
  case invokevirtual i =>
    exact ab_call_s (u := 0) (by decide) hS (fun o hc => by show am_call 0 (am_mi k).1 i (pc + 3) ls st w = some o; exact hc) hg hJ hf hwr h K
  case invokestatic i =>
    exact ab_call_s (u := 1) (by decide) hS (fun o hc => by show am_call 1 (am_mi k).1 i (pc + 3) ls st w = some o; exact hc) hg hJ hf hwr h K
  all_goals exact absurd h (by intro q; cases q)
end ABX
