set_option maxHeartbeats 4000000 in
set_option maxRecDepth 100000 in
/-- what a step can be: a next frame (the world is no smaller, the locals are as many), a call, a return -/
theorem am_kind {X : Option (List Int32)} {oc rb : Nat} {ini : Bool} {ins : Instr} {pc : Nat} {ls : am_L} {st : List Value} {w : am_W} {o : am_R} (h : am_ins X oc rb ini ins pc ls st w = some o) :
    (∃ pc1 ls1 st1 w1, o = .inl ((pc1, ls1, st1), w1) ∧ w.length ≤ w1.length ∧ am_sz w ≤ am_sz w1 ∧ ls1.length = ls.length) ∨
    (∃ u i q, ((u = 0 ∧ ins = .invokevirtual i) ∨ (u = 1 ∧ ins = .invokestatic i) ∨ (u = 2 ∧ ins = .invokespecial i)) ∧ o = .inr (.inl q) ∧ am_call u oc i (pc + 3) ls st w = some o) ∨
    (∃ v, o = .inr (.inr v) ∧ am_ret rb st = some o ∧ ((ins = .ireturn ∧ (rb = 1 ∨ rb = 2)) ∨ (ins = .lreturn ∧ rb = 3) ∨ (ins = .return_ ∧ rb = 0))) := by
  cases ins
  case aload_n n =>
    obtain ⟨x, h1, e⟩ := am_aload_inv h
    exact Or.inl ⟨_, _, _, _, e, Nat.le_refl _, Nat.le_refl _, rfl⟩
  case astore_n n =>
    obtain ⟨x, r, -, h1, e⟩ := am_astore_inv h
    exact Or.inl ⟨_, _, _, _, e, Nat.le_refl _, Nat.le_refl _, am_st1_len⟩
  case aload n =>
    obtain ⟨x, h1, e⟩ := am_aload_inv h
    exact Or.inl ⟨_, _, _, _, e, Nat.le_refl _, Nat.le_refl _, rfl⟩
  case astore n =>
    obtain ⟨x, r, -, h1, e⟩ := am_astore_inv h
    exact Or.inl ⟨_, _, _, _, e, Nat.le_refl _, Nat.le_refl _, am_st1_len⟩
  case iload_n n =>
    obtain ⟨x, h1, e⟩ := am_iload_inv h
    exact Or.inl ⟨_, _, _, _, e, Nat.le_refl _, Nat.le_refl _, rfl⟩
  case istore_n n =>
    obtain ⟨x, r, -, h1, e⟩ := am_istore_inv h
    exact Or.inl ⟨_, _, _, _, e, Nat.le_refl _, Nat.le_refl _, am_st1_len⟩
  case iload n =>
    obtain ⟨x, h1, e⟩ := am_iload_inv h
    exact Or.inl ⟨_, _, _, _, e, Nat.le_refl _, Nat.le_refl _, rfl⟩
  case istore n =>
    obtain ⟨x, r, -, h1, e⟩ := am_istore_inv h
    exact Or.inl ⟨_, _, _, _, e, Nat.le_refl _, Nat.le_refl _, am_st1_len⟩
  case lload_n n =>
    obtain ⟨x, h1, e⟩ := am_lload_inv h
    exact Or.inl ⟨_, _, _, _, e, Nat.le_refl _, Nat.le_refl _, rfl⟩
  case lstore_n n =>
    obtain ⟨x, r, -, h1, e⟩ := am_lstore_inv h
    exact Or.inl ⟨_, _, _, _, e, Nat.le_refl _, Nat.le_refl _, am_st2_len⟩
  case lload n =>
    obtain ⟨x, h1, e⟩ := am_lload_inv h
    exact Or.inl ⟨_, _, _, _, e, Nat.le_refl _, Nat.le_refl _, rfl⟩
  case lstore n =>
    obtain ⟨x, r, -, h1, e⟩ := am_lstore_inv h
    exact Or.inl ⟨_, _, _, _, e, Nat.le_refl _, Nat.le_refl _, am_st2_len⟩
  case iconst n =>
    have e := am_nx_inv h
    exact Or.inl ⟨_, _, _, _, e, Nat.le_refl _, Nat.le_refl _, rfl⟩
  case bipush n =>
    have e := am_nx_inv h
    exact Or.inl ⟨_, _, _, _, e, Nat.le_refl _, Nat.le_refl _, rfl⟩
  case sipush n =>
    have e := am_nx_inv h
    exact Or.inl ⟨_, _, _, _, e, Nat.le_refl _, Nat.le_refl _, rfl⟩
  case lconst n =>
    have e := am_nx_inv h
    exact Or.inl ⟨_, _, _, _, e, Nat.le_refl _, Nat.le_refl _, rfl⟩
  case ldc i =>
    rcases am_cst_inv h with ⟨-, x, h2, e⟩ | ⟨-, x, h2, e⟩
    · exact Or.inl ⟨_, _, _, _, e, Nat.le_refl _, Nat.le_refl _, rfl⟩
    · exact Or.inl ⟨_, _, _, _, e, Nat.le_refl _, Nat.le_refl _, rfl⟩
  case ldc_w i =>
    rcases am_cst_inv h with ⟨-, x, h2, e⟩ | ⟨-, x, h2, e⟩
    · exact Or.inl ⟨_, _, _, _, e, Nat.le_refl _, Nat.le_refl _, rfl⟩
    · exact Or.inl ⟨_, _, _, _, e, Nat.le_refl _, Nat.le_refl _, rfl⟩
  case ldc2_w i =>
    rcases am_cst_inv h with ⟨-, x, h2, e⟩ | ⟨-, x, h2, e⟩
    · exact Or.inl ⟨_, _, _, _, e, Nat.le_refl _, Nat.le_refl _, rfl⟩
    · exact Or.inl ⟨_, _, _, _, e, Nat.le_refl _, Nat.le_refl _, rfl⟩
  case getfield i =>
    obtain ⟨a, r, ci, kf, fs, v, -, h1, h2, h3, e⟩ := am_getf_inv h
    exact Or.inl ⟨_, _, _, _, e, Nat.le_refl _, Nat.le_refl _, rfl⟩
  case putfield i =>
    obtain ⟨v, a, r, ci, kf, fs, ty, fin, -, h1, h2, h3, h4, h5, h6, e⟩ := am_putf_inv h
    exact Or.inl ⟨_, _, _, _, e, by rw [List.length_set]; exact Nat.le_refl _, by rw [am_sz_set h2 (by simp [am_szc])]; exact Nat.le_refl _, rfl⟩
  case getstatic i =>
    obtain ⟨h1, h2⟩ := am_bif h
    have e := am_nx_inv h2
    exact Or.inl ⟨_, _, _, _, e, Nat.le_refl _, Nat.le_refl _, rfl⟩
  case new i =>
    obtain ⟨ci, h1, h2, h3, h4, h5, e⟩ := am_new_inv h
    exact Or.inl ⟨_, _, _, _, e, by rw [List.length_append]; exact Nat.le_add_right _ _, by rw [am_sz_app]; exact Nat.le_add_right _ _, rfl⟩
  case newarray ty =>
    obtain ⟨n, r, -, h1, h2, h3, h4, h5, cc1, e, hq⟩ := am_newa_inv h
    exact Or.inl ⟨_, _, _, _, e, by rw [List.length_append]; exact Nat.le_add_right _ _, by rw [am_sz_app]; exact Nat.le_add_right _ _, rfl⟩
  case anewarray i =>
    obtain ⟨g1, g2⟩ := am_bif h
    obtain ⟨n, r, -, h1, h2, h3, h4, h5, e⟩ := am_newq_inv g2
    exact Or.inl ⟨_, _, _, _, e, by rw [List.length_append]; exact Nat.le_add_right _ _, by rw [am_sz_app]; exact Nat.le_add_right _ _, rfl⟩
  case iaload =>
    obtain ⟨i, a, r, l2, -, h1, h2, e⟩ := am_iald_inv h
    exact Or.inl ⟨_, _, _, _, e, Nat.le_refl _, Nat.le_refl _, rfl⟩
  case baload =>
    obtain ⟨i, a, r, l2, -, h1, h2, e⟩ := am_zald_inv h
    exact Or.inl ⟨_, _, _, _, e, Nat.le_refl _, Nat.le_refl _, rfl⟩
  case laload =>
    obtain ⟨i, a, r, l2, -, h1, h2, e⟩ := am_lald_inv h
    exact Or.inl ⟨_, _, _, _, e, Nat.le_refl _, Nat.le_refl _, rfl⟩
  case aaload =>
    obtain ⟨i, a, r, l2, q, -, h1, h2, h3, e⟩ := am_aald_inv h
    exact Or.inl ⟨_, _, _, _, e, Nat.le_refl _, Nat.le_refl _, rfl⟩
  case iastore =>
    obtain ⟨x, i, a, r, l2, -, h1, h2, e⟩ := am_iast_inv h
    exact Or.inl ⟨_, _, _, _, e, by rw [List.length_set]; exact Nat.le_refl _, by rw [am_sz_set h1 (by simp [am_szc])]; exact Nat.le_refl _, rfl⟩
  case bastore =>
    obtain ⟨x, i, a, r, l2, -, h1, h2, e⟩ := am_zast_inv h
    exact Or.inl ⟨_, _, _, _, e, by rw [List.length_set]; exact Nat.le_refl _, by rw [am_sz_set h1 (by simp [am_szc])]; exact Nat.le_refl _, rfl⟩
  case lastore =>
    obtain ⟨x, i, a, r, l2, -, h1, h2, e⟩ := am_last_inv h
    exact Or.inl ⟨_, _, _, _, e, by rw [List.length_set]; exact Nat.le_refl _, by rw [am_sz_set h1 (by simp [am_szc])]; exact Nat.le_refl _, rfl⟩
  case aastore =>
    obtain ⟨v, i, a, r, l2, fs, -, h1, h3, h2, e⟩ := am_aast_inv h
    exact Or.inl ⟨_, _, _, _, e, by rw [List.length_set]; exact Nat.le_refl _, by rw [am_sz_set h1 (by simp [am_szc])]; exact Nat.le_refl _, rfl⟩
  case arraylength =>
    obtain ⟨a, r, -, h1⟩ := am_alen_inv h
    rcases h1 with ⟨l2, h1, e⟩ | ⟨l2, h1, e⟩
    · exact Or.inl ⟨_, _, _, _, e, Nat.le_refl _, Nat.le_refl _, rfl⟩
    · exact Or.inl ⟨_, _, _, _, e, Nat.le_refl _, Nat.le_refl _, rfl⟩
  case ifCond q off =>
    obtain ⟨x, r, t, -, ht, hq⟩ := am_if_inv h
    rcases hq with ⟨-, e⟩ | ⟨-, e⟩
    · exact Or.inl ⟨_, _, _, _, e, Nat.le_refl _, Nat.le_refl _, rfl⟩
    · exact Or.inl ⟨_, _, _, _, e, Nat.le_refl _, Nat.le_refl _, rfl⟩
  case if_icmp q off =>
    obtain ⟨x, y, r, t, -, ht, hq⟩ := am_icmp_inv h
    rcases hq with ⟨-, e⟩ | ⟨-, e⟩
    · exact Or.inl ⟨_, _, _, _, e, Nat.le_refl _, Nat.le_refl _, rfl⟩
    · exact Or.inl ⟨_, _, _, _, e, Nat.le_refl _, Nat.le_refl _, rfl⟩
  case goto off =>
    obtain ⟨t, ht, e⟩ := am_jmp_inv h
    exact Or.inl ⟨_, _, _, _, e, Nat.le_refl _, Nat.le_refl _, rfl⟩
  case tableswitch d lo hi offs =>
    obtain ⟨x, r, t, -, e, hq⟩ := am_sw_inv h
    exact Or.inl ⟨_, _, _, _, e, Nat.le_refl _, Nat.le_refl _, rfl⟩
  case iinc i n =>
    obtain ⟨x, h1, h2, e⟩ := am_iinc_inv h
    exact Or.inl ⟨_, _, _, _, e, Nat.le_refl _, Nat.le_refl _, am_st1_len⟩
  case iadd =>
    obtain ⟨x, y, r, -, e⟩ := am_ib_inv h
    exact Or.inl ⟨_, _, _, _, e, Nat.le_refl _, Nat.le_refl _, rfl⟩
  case isub =>
    obtain ⟨x, y, r, -, e⟩ := am_ib_inv h
    exact Or.inl ⟨_, _, _, _, e, Nat.le_refl _, Nat.le_refl _, rfl⟩
  case imul =>
    obtain ⟨x, y, r, -, e⟩ := am_ib_inv h
    exact Or.inl ⟨_, _, _, _, e, Nat.le_refl _, Nat.le_refl _, rfl⟩
  case iand =>
    obtain ⟨x, y, r, -, e⟩ := am_ib_inv h
    exact Or.inl ⟨_, _, _, _, e, Nat.le_refl _, Nat.le_refl _, rfl⟩
  case ior =>
    obtain ⟨x, y, r, -, e⟩ := am_ib_inv h
    exact Or.inl ⟨_, _, _, _, e, Nat.le_refl _, Nat.le_refl _, rfl⟩
  case ixor =>
    obtain ⟨x, y, r, -, e⟩ := am_ib_inv h
    exact Or.inl ⟨_, _, _, _, e, Nat.le_refl _, Nat.le_refl _, rfl⟩
  case ishl =>
    obtain ⟨x, y, r, -, e⟩ := am_ib_inv h
    exact Or.inl ⟨_, _, _, _, e, Nat.le_refl _, Nat.le_refl _, rfl⟩
  case ishr =>
    obtain ⟨x, y, r, -, e⟩ := am_ib_inv h
    exact Or.inl ⟨_, _, _, _, e, Nat.le_refl _, Nat.le_refl _, rfl⟩
  case iushr =>
    obtain ⟨x, y, r, -, e⟩ := am_ib_inv h
    exact Or.inl ⟨_, _, _, _, e, Nat.le_refl _, Nat.le_refl _, rfl⟩
  case idiv =>
    obtain ⟨x, y, r, -, h1, e⟩ := am_idv_inv h
    exact Or.inl ⟨_, _, _, _, e, Nat.le_refl _, Nat.le_refl _, rfl⟩
  case irem =>
    obtain ⟨x, y, r, -, h1, e⟩ := am_idv_inv h
    exact Or.inl ⟨_, _, _, _, e, Nat.le_refl _, Nat.le_refl _, rfl⟩
  case ladd =>
    obtain ⟨x, y, r, -, e⟩ := am_lb_inv h
    exact Or.inl ⟨_, _, _, _, e, Nat.le_refl _, Nat.le_refl _, rfl⟩
  case lsub =>
    obtain ⟨x, y, r, -, e⟩ := am_lb_inv h
    exact Or.inl ⟨_, _, _, _, e, Nat.le_refl _, Nat.le_refl _, rfl⟩
  case lmul =>
    obtain ⟨x, y, r, -, e⟩ := am_lb_inv h
    exact Or.inl ⟨_, _, _, _, e, Nat.le_refl _, Nat.le_refl _, rfl⟩
  case land =>
    obtain ⟨x, y, r, -, e⟩ := am_lb_inv h
    exact Or.inl ⟨_, _, _, _, e, Nat.le_refl _, Nat.le_refl _, rfl⟩
  case lor =>
    obtain ⟨x, y, r, -, e⟩ := am_lb_inv h
    exact Or.inl ⟨_, _, _, _, e, Nat.le_refl _, Nat.le_refl _, rfl⟩
  case lxor =>
    obtain ⟨x, y, r, -, e⟩ := am_lb_inv h
    exact Or.inl ⟨_, _, _, _, e, Nat.le_refl _, Nat.le_refl _, rfl⟩
  case ldiv =>
    obtain ⟨x, y, r, -, h1, e⟩ := am_ldv_inv h
    exact Or.inl ⟨_, _, _, _, e, Nat.le_refl _, Nat.le_refl _, rfl⟩
  case lrem =>
    obtain ⟨x, y, r, -, h1, e⟩ := am_ldv_inv h
    exact Or.inl ⟨_, _, _, _, e, Nat.le_refl _, Nat.le_refl _, rfl⟩
  case lshl =>
    obtain ⟨x, y, r, -, e⟩ := am_lsh_inv h
    exact Or.inl ⟨_, _, _, _, e, Nat.le_refl _, Nat.le_refl _, rfl⟩
  case lshr =>
    obtain ⟨x, y, r, -, e⟩ := am_lsh_inv h
    exact Or.inl ⟨_, _, _, _, e, Nat.le_refl _, Nat.le_refl _, rfl⟩
  case lushr =>
    obtain ⟨x, y, r, -, e⟩ := am_lsh_inv h
    exact Or.inl ⟨_, _, _, _, e, Nat.le_refl _, Nat.le_refl _, rfl⟩
  case lcmp =>
    obtain ⟨x, y, r, -, e⟩ := am_lcmp_inv h
    exact Or.inl ⟨_, _, _, _, e, Nat.le_refl _, Nat.le_refl _, rfl⟩
  case i2l =>
    obtain ⟨x, r, -, e⟩ := am_i2l_inv h
    exact Or.inl ⟨_, _, _, _, e, Nat.le_refl _, Nat.le_refl _, rfl⟩
  case l2i =>
    obtain ⟨x, r, -, e⟩ := am_l2i_inv h
    exact Or.inl ⟨_, _, _, _, e, Nat.le_refl _, Nat.le_refl _, rfl⟩
  case dup =>
    obtain ⟨v, r, -, h1, e⟩ := am_dup_inv h
    exact Or.inl ⟨_, _, _, _, e, Nat.le_refl _, Nat.le_refl _, rfl⟩
  case dup2 =>
    rcases am_dup2_inv h with ⟨v, r, -, h1, e⟩ | ⟨v, u, r, -, h1, h2, e⟩
    · exact Or.inl ⟨_, _, _, _, e, Nat.le_refl _, Nat.le_refl _, rfl⟩
    · exact Or.inl ⟨_, _, _, _, e, Nat.le_refl _, Nat.le_refl _, rfl⟩
  case pop =>
    obtain ⟨v, r, -, h1, e⟩ := am_pop_inv h
    exact Or.inl ⟨_, _, _, _, e, Nat.le_refl _, Nat.le_refl _, rfl⟩
  case pop2 =>
    obtain ⟨v, r, -, h1, e⟩ := am_pop2_inv h
    exact Or.inl ⟨_, _, _, _, e, Nat.le_refl _, Nat.le_refl _, rfl⟩
  case invokevirtual i =>
    have hc : am_call 0 oc i (pc + 3) ls st w = some o := h
    obtain ⟨kd, z, n, hf, hq⟩ := am_call_inv hc
    rcases hq with ⟨q1, g2⟩ | ⟨q1, q2, a, r, q3, q4, e⟩ | ⟨q1, q2, q3, q4, q5, e⟩ | ⟨q1, q2, q3, a, r, fs, q4, q5, q6, e⟩
    · rcases am_jdk_inv g2 with ⟨q2, g3⟩ | ⟨q2, g3⟩ | ⟨q2, g3⟩
      · obtain ⟨n1, dp, a, sp, b, r, f, g, q3, h1, h2, h3, h4, h5, h6, h7, h8, e⟩ := am_copy_inv g3
        exact Or.inl ⟨_, _, _, _, e, by rw [List.length_set]; exact Nat.le_refl _, by rw [am_sz_set h1 (by simp [am_szc, am_cpy_len h6 h7])]; exact Nat.le_refl _, rfl⟩
      · obtain ⟨x, y, r, q3, h8, e⟩ := am_mx_inv g3
        exact Or.inl ⟨_, _, _, _, e, Nat.le_refl _, Nat.le_refl _, rfl⟩
      · obtain ⟨x, y, r, q3, h8, e⟩ := am_mn_inv g3
        exact Or.inl ⟨_, _, _, _, e, Nat.le_refl _, Nat.le_refl _, rfl⟩
    · exact Or.inl ⟨_, _, _, _, e, Nat.le_refl _, Nat.le_refl _, rfl⟩
    · exact Or.inr (Or.inl ⟨0, i, _, Or.inl ⟨rfl, rfl⟩, e, hc⟩)
    · exact Or.inr (Or.inl ⟨0, i, _, Or.inl ⟨rfl, rfl⟩, e, hc⟩)
  case invokestatic i =>
    have hc : am_call 1 oc i (pc + 3) ls st w = some o := h
    obtain ⟨kd, z, n, hf, hq⟩ := am_call_inv hc
    rcases hq with ⟨q1, g2⟩ | ⟨q1, q2, a, r, q3, q4, e⟩ | ⟨q1, q2, q3, q4, q5, e⟩ | ⟨q1, q2, q3, a, r, fs, q4, q5, q6, e⟩
    · rcases am_jdk_inv g2 with ⟨q2, g3⟩ | ⟨q2, g3⟩ | ⟨q2, g3⟩
      · obtain ⟨n1, dp, a, sp, b, r, f, g, q3, h1, h2, h3, h4, h5, h6, h7, h8, e⟩ := am_copy_inv g3
        exact Or.inl ⟨_, _, _, _, e, by rw [List.length_set]; exact Nat.le_refl _, by rw [am_sz_set h1 (by simp [am_szc, am_cpy_len h6 h7])]; exact Nat.le_refl _, rfl⟩
      · obtain ⟨x, y, r, q3, h8, e⟩ := am_mx_inv g3
        exact Or.inl ⟨_, _, _, _, e, Nat.le_refl _, Nat.le_refl _, rfl⟩
      · obtain ⟨x, y, r, q3, h8, e⟩ := am_mn_inv g3
        exact Or.inl ⟨_, _, _, _, e, Nat.le_refl _, Nat.le_refl _, rfl⟩
    · exact Or.inl ⟨_, _, _, _, e, Nat.le_refl _, Nat.le_refl _, rfl⟩
    · exact Or.inr (Or.inl ⟨1, i, _, Or.inr (Or.inl ⟨rfl, rfl⟩), e, hc⟩)
    · exact Or.inr (Or.inl ⟨1, i, _, Or.inr (Or.inl ⟨rfl, rfl⟩), e, hc⟩)
  case invokespecial i =>
    have hc : am_call 2 oc i (pc + 3) ls st w = some o := h
    obtain ⟨kd, z, n, hf, hq⟩ := am_call_inv hc
    rcases hq with ⟨q1, g2⟩ | ⟨q1, q2, a, r, q3, q4, e⟩ | ⟨q1, q2, q3, q4, q5, e⟩ | ⟨q1, q2, q3, a, r, fs, q4, q5, q6, e⟩
    · rcases am_jdk_inv g2 with ⟨q2, g3⟩ | ⟨q2, g3⟩ | ⟨q2, g3⟩
      · obtain ⟨n1, dp, a, sp, b, r, f, g, q3, h1, h2, h3, h4, h5, h6, h7, h8, e⟩ := am_copy_inv g3
        exact Or.inl ⟨_, _, _, _, e, by rw [List.length_set]; exact Nat.le_refl _, by rw [am_sz_set h1 (by simp [am_szc, am_cpy_len h6 h7])]; exact Nat.le_refl _, rfl⟩
      · obtain ⟨x, y, r, q3, h8, e⟩ := am_mx_inv g3
        exact Or.inl ⟨_, _, _, _, e, Nat.le_refl _, Nat.le_refl _, rfl⟩
      · obtain ⟨x, y, r, q3, h8, e⟩ := am_mn_inv g3
        exact Or.inl ⟨_, _, _, _, e, Nat.le_refl _, Nat.le_refl _, rfl⟩
    · exact Or.inl ⟨_, _, _, _, e, Nat.le_refl _, Nat.le_refl _, rfl⟩
    · exact Or.inr (Or.inl ⟨2, i, _, Or.inr (Or.inr ⟨rfl, rfl⟩), e, hc⟩)
    · exact Or.inr (Or.inl ⟨2, i, _, Or.inr (Or.inr ⟨rfl, rfl⟩), e, hc⟩)
  case ireturn =>
    obtain ⟨b, g⟩ := am_bif h
    have hb : rb = 1 ∨ rb = 2 := (Bool.or_eq_true _ _ |>.mp b).imp Nat.eq_of_beq_eq_true Nat.eq_of_beq_eq_true
    rcases am_ret_inv g with ⟨-, -, e⟩ | ⟨x, -, -, e⟩ | ⟨x, -, -, -, e⟩ | ⟨x, -, -, e⟩ <;> exact Or.inr (Or.inr ⟨_, e, g, Or.inl ⟨rfl, hb⟩⟩)
  case lreturn =>
    obtain ⟨b, g⟩ := am_bif h
    have hb := Nat.eq_of_beq_eq_true b
    rcases am_ret_inv g with ⟨-, -, e⟩ | ⟨x, -, -, e⟩ | ⟨x, -, -, -, e⟩ | ⟨x, -, -, e⟩ <;> exact Or.inr (Or.inr ⟨_, e, g, Or.inr (Or.inl ⟨rfl, hb⟩)⟩)
  case return_ =>
    obtain ⟨b, g⟩ := am_bif h
    have hb := Nat.eq_of_beq_eq_true b
    rcases am_ret_inv g with ⟨-, -, e⟩ | ⟨x, -, -, e⟩ | ⟨x, -, -, -, e⟩ | ⟨x, -, -, e⟩ <;> exact Or.inr (Or.inr ⟨_, e, g, Or.inr (Or.inr ⟨rfl, hb⟩)⟩)
  all_goals exact absurd h (by intro q; cases q)
