/-! ===== what a step of my machine was ===== -/
theorem am_bif {α : Type} {b : Bool} {a : Option α} {o : α} (h : (bif b then a else none) = some o) : b = true ∧ a = some o := by
  cases b
  · cases h
  · exact ⟨rfl, h⟩
theorem am_ife {α : Type} {q : Prop} [Decidable q] {a : Option α} {o : α} (h : (if q then none else a) = some o) : ¬ q ∧ a = some o := by
  by_cases hq : q
  · rw [if_pos hq] at h; cases h
  · rw [if_neg hq] at h; exact ⟨hq, h⟩
theorem am_ift {α : Type} {q : Prop} [Decidable q] {a : Option α} {o : α} (h : (if q then a else none) = some o) : q ∧ a = some o := by
  by_cases hq : q
  · rw [if_pos hq] at h; exact ⟨hq, h⟩
  · rw [if_neg hq] at h; cases h
theorem am_blt {i n : Nat} (h : Nat.blt i n = true) : i < n := Nat.le_of_ble_eq_true h
theorem am_and {a b : Bool} (h : (a && b) = true) : a = true ∧ b = true := by
  cases a
  · cases h
  · exact ⟨rfl, h⟩
theorem am_iload_inv {pc i : Nat} {ls : am_L} {st : List Value} {w : am_W} {o : am_R} (h : am_iload pc i ls st w = some o) : ∃ x, ls[i]? = some (some (.int x)) ∧ o = .inl ((pc, ls, .int x :: st), w) := by
  unfold am_iload at h
  split at h
  · exact ⟨_, by assumption, (Option.some.inj h).symm⟩
  · cases h
theorem am_lload_inv {pc i : Nat} {ls : am_L} {st : List Value} {w : am_W} {o : am_R} (h : am_lload pc i ls st w = some o) : ∃ x, ls[i]? = some (some (.long x)) ∧ o = .inl ((pc, ls, .long x :: st), w) := by
  unfold am_lload at h
  split at h
  · exact ⟨_, by assumption, (Option.some.inj h).symm⟩
  · cases h
theorem am_aload_inv {pc i : Nat} {ls : am_L} {st : List Value} {w : am_W} {o : am_R} (h : am_aload pc i ls st w = some o) : ∃ x, ls[i]? = some (some (.ref x)) ∧ o = .inl ((pc, ls, .ref x :: st), w) := by
  unfold am_aload at h
  split at h
  · exact ⟨_, by assumption, (Option.some.inj h).symm⟩
  · cases h
theorem am_istore_inv {pc i : Nat} {ls : am_L} {st : List Value} {w : am_W} {o : am_R} (h : am_istore pc i ls st w = some o) : ∃ x r, st = .int x :: r ∧ i < ls.length ∧ o = .inl ((pc, am_st1 ls i (.int x), r), w) := by
  unfold am_istore at h
  split at h
  · obtain ⟨h1, h2⟩ := am_bif h
    exact ⟨_, _, by first | rfl | assumption, am_blt h1, (Option.some.inj h2).symm⟩
  · cases h
theorem am_lstore_inv {pc i : Nat} {ls : am_L} {st : List Value} {w : am_W} {o : am_R} (h : am_lstore pc i ls st w = some o) : ∃ x r, st = .long x :: r ∧ i + 1 < ls.length ∧ o = .inl ((pc, am_st2 ls i (.long x), r), w) := by
  unfold am_lstore at h
  split at h
  · obtain ⟨h1, h2⟩ := am_bif h
    exact ⟨_, _, by first | rfl | assumption, am_blt h1, (Option.some.inj h2).symm⟩
  · cases h
theorem am_astore_inv {pc i : Nat} {ls : am_L} {st : List Value} {w : am_W} {o : am_R} (h : am_astore pc i ls st w = some o) : ∃ x r, st = .ref x :: r ∧ i < ls.length ∧ o = .inl ((pc, am_st1 ls i (.ref x), r), w) := by
  unfold am_astore at h
  split at h
  · obtain ⟨h1, h2⟩ := am_bif h
    exact ⟨_, _, by first | rfl | assumption, am_blt h1, (Option.some.inj h2).symm⟩
  · cases h
theorem am_iinc_inv {pc i : Nat} {n : Int} {ls : am_L} {st : List Value} {w : am_W} {o : am_R} (h : am_iinc pc i n ls st w = some o) : ∃ x, ls[i]? = some (some (.int x)) ∧ i < ls.length ∧ o = .inl ((pc, am_st1 ls i (.int (x + Int32.ofInt n)), st), w) := by
  unfold am_iinc at h
  split at h
  · obtain ⟨h1, h2⟩ := am_bif h
    exact ⟨_, by assumption, am_blt h1, (Option.some.inj h2).symm⟩
  · cases h
theorem am_ib_inv {f : Int32 → Int32 → Int32} {pc : Nat} {ls : am_L} {st : List Value} {w : am_W} {o : am_R} (h : am_ib f pc ls st w = some o) : ∃ x y r, st = .int y :: .int x :: r ∧ o = .inl ((pc, ls, .int (f x y) :: r), w) := by
  unfold am_ib at h
  split at h
  · exact ⟨_, _, _, by first | rfl | assumption, (Option.some.inj h).symm⟩
  · cases h
theorem am_lb_inv {f : Int64 → Int64 → Int64} {pc : Nat} {ls : am_L} {st : List Value} {w : am_W} {o : am_R} (h : am_lb f pc ls st w = some o) : ∃ x y r, st = .long y :: .long x :: r ∧ o = .inl ((pc, ls, .long (f x y) :: r), w) := by
  unfold am_lb at h
  split at h
  · exact ⟨_, _, _, by first | rfl | assumption, (Option.some.inj h).symm⟩
  · cases h
theorem am_lsh_inv {f : Int64 → Int32 → Int64} {pc : Nat} {ls : am_L} {st : List Value} {w : am_W} {o : am_R} (h : am_lsh f pc ls st w = some o) : ∃ x y r, st = .int y :: .long x :: r ∧ o = .inl ((pc, ls, .long (f x y) :: r), w) := by
  unfold am_lsh at h
  split at h
  · exact ⟨_, _, _, by first | rfl | assumption, (Option.some.inj h).symm⟩
  · cases h
theorem am_idv_inv {f : Int32 → Int32 → Int32} {pc : Nat} {ls : am_L} {st : List Value} {w : am_W} {o : am_R} (h : am_idv f pc ls st w = some o) : ∃ x y r, st = .int y :: .int x :: r ∧ ¬ y = 0 ∧ o = .inl ((pc, ls, .int (f x y) :: r), w) := by
  unfold am_idv at h
  split at h
  · obtain ⟨h1, h2⟩ := am_ife h
    exact ⟨_, _, _, by first | rfl | assumption, h1, (Option.some.inj h2).symm⟩
  · cases h
theorem am_ldv_inv {f : Int64 → Int64 → Int64} {pc : Nat} {ls : am_L} {st : List Value} {w : am_W} {o : am_R} (h : am_ldv f pc ls st w = some o) : ∃ x y r, st = .long y :: .long x :: r ∧ ¬ y = 0 ∧ o = .inl ((pc, ls, .long (f x y) :: r), w) := by
  unfold am_ldv at h
  split at h
  · obtain ⟨h1, h2⟩ := am_ife h
    exact ⟨_, _, _, by first | rfl | assumption, h1, (Option.some.inj h2).symm⟩
  · cases h
theorem am_jmp_inv {pc : Nat} {off : Int} {ls : am_L} {st : List Value} {w : am_W} {o : am_R} (h : am_jmp pc off ls st w = some o) : ∃ t : Nat, (pc : Int) + off = (t : Int) ∧ o = .inl ((t, ls, st), w) := by
  unfold am_jmp at h
  split at h
  · exact ⟨_, by assumption, (Option.some.inj h).symm⟩
  · cases h
theorem am_if_inv {q : ClassFile.Cond} {pc : Nat} {off : Int} {ls : am_L} {st : List Value} {w : am_W} {o : am_R} (h : am_if q pc off ls st w = some o) : ∃ (x : Int32) (r : List Value) (t : Nat), st = .int x :: r ∧ (pc : Int) + off = (t : Int) ∧ ((am_cc q x 0 = true ∧ o = .inl ((t, ls, r), w)) ∨ (am_cc q x 0 = false ∧ o = .inl ((pc + 3, ls, r), w))) := by
  unfold am_if at h
  split at h
  · rename_i x r t e
    refine ⟨x, r, t, by first | rfl | assumption, by first | assumption | exact e, ?_⟩
    cases hq : am_cc q x 0 with
    | true => rw [hq] at h; exact Or.inl ⟨rfl, (Option.some.inj h).symm⟩
    | false => rw [hq] at h; exact Or.inr ⟨rfl, (Option.some.inj h).symm⟩
  · cases h
theorem am_icmp_inv {q : ClassFile.Cond} {pc : Nat} {off : Int} {ls : am_L} {st : List Value} {w : am_W} {o : am_R} (h : am_icmp q pc off ls st w = some o) : ∃ (x y : Int32) (r : List Value) (t : Nat), st = .int y :: .int x :: r ∧ (pc : Int) + off = (t : Int) ∧ ((am_cc q x y = true ∧ o = .inl ((t, ls, r), w)) ∨ (am_cc q x y = false ∧ o = .inl ((pc + 3, ls, r), w))) := by
  unfold am_icmp at h
  split at h
  · rename_i y x r t e
    refine ⟨x, y, r, t, by first | rfl | assumption, by first | assumption | exact e, ?_⟩
    cases hq : am_cc q x y with
    | true => rw [hq] at h; exact Or.inl ⟨rfl, (Option.some.inj h).symm⟩
    | false => rw [hq] at h; exact Or.inr ⟨rfl, (Option.some.inj h).symm⟩
  · cases h
theorem am_sw_inv {d lo hi : Int} {offs : Array Int} {pc : Nat} {ls : am_L} {st : List Value} {w : am_W} {o : am_R} (h : am_sw d lo hi offs pc ls st w = some o) : ∃ (x : Int32) (r : List Value) (t : Nat), st = .int x :: r ∧ o = .inl ((t, ls, r), w) ∧ (((x.toInt < lo ∨ hi < x.toInt) ∧ (pc : Int) + d = (t : Int)) ∨ (¬ (x.toInt < lo ∨ hi < x.toInt) ∧ ∃ f, offs[(x.toInt - lo).toNat]? = some f ∧ (pc : Int) + f = (t : Int))) := by
  unfold am_sw at h
  split at h
  · rename_i x r
    split at h
    · next hq =>
      obtain ⟨t, h1, h2⟩ := am_jmp_inv h
      exact ⟨x, r, t, by first | rfl | assumption, h2, Or.inl ⟨hq, h1⟩⟩
    · next hq =>
      split at h
      · next f hf =>
        obtain ⟨t, h1, h2⟩ := am_jmp_inv h
        exact ⟨x, r, t, by first | rfl | assumption, h2, Or.inr ⟨hq, f, by rw [← Array.getElem?_toList]; exact hf, h1⟩⟩
      · cases h
  · cases h
theorem am_dup_inv {pc : Nat} {ls : am_L} {st : List Value} {w : am_W} {o : am_R} (h : am_dup pc ls st w = some o) : ∃ v r, st = v :: r ∧ v.category = 1 ∧ o = .inl ((pc, ls, v :: v :: r), w) := by
  unfold am_dup at h
  split at h
  · obtain ⟨h1, h2⟩ := am_ift h
    exact ⟨_, _, by first | rfl | assumption, h1, (Option.some.inj h2).symm⟩
  · cases h
theorem am_dup2_inv {pc : Nat} {ls : am_L} {st : List Value} {w : am_W} {o : am_R} (h : am_dup2 pc ls st w = some o) : (∃ v r, st = v :: r ∧ v.category = 2 ∧ o = .inl ((pc, ls, v :: v :: r), w)) ∨ ∃ v u r, st = v :: u :: r ∧ v.category = 1 ∧ u.category = 1 ∧ o = .inl ((pc, ls, v :: u :: v :: u :: r), w) := by
  unfold am_dup2 at h
  split at h
  · rename_i v r
    by_cases h1 : v.category = 2
    · rw [if_pos h1] at h
      exact Or.inl ⟨v, r, by first | rfl | assumption, h1, (Option.some.inj h).symm⟩
    · rw [if_neg h1] at h
      split at h
      · obtain ⟨h2, h3⟩ := am_ift h
        exact Or.inr ⟨_, _, _, by first | rfl | assumption, (lv_cat v).resolve_right h1, h2, (Option.some.inj h3).symm⟩
      · cases h
  · cases h
theorem am_pop2_inv {pc : Nat} {ls : am_L} {st : List Value} {w : am_W} {o : am_R} (h : am_pop2 pc ls st w = some o) : ∃ v r, st = v :: r ∧ v.category = 2 ∧ o = .inl ((pc, ls, r), w) := by
  unfold am_pop2 at h
  split at h
  · obtain ⟨h1, h2⟩ := am_ift h
    exact ⟨_, _, by first | rfl | assumption, h1, (Option.some.inj h2).symm⟩
  · cases h
theorem am_pop_inv {pc : Nat} {ls : am_L} {st : List Value} {w : am_W} {o : am_R} (h : am_pop pc ls st w = some o) : ∃ v r, st = v :: r ∧ v.category = 1 ∧ o = .inl ((pc, ls, r), w) := by
  unfold am_pop at h
  split at h
  · obtain ⟨h1, h2⟩ := am_ift h
    exact ⟨_, _, by first | rfl | assumption, h1, (Option.some.inj h2).symm⟩
  · cases h
theorem am_i2l_inv {pc : Nat} {ls : am_L} {st : List Value} {w : am_W} {o : am_R} (h : am_i2l pc ls st w = some o) : ∃ x r, st = .int x :: r ∧ o = .inl ((pc, ls, .long x.toInt64 :: r), w) := by
  unfold am_i2l at h
  split at h
  · exact ⟨_, _, by first | rfl | assumption, (Option.some.inj h).symm⟩
  · cases h
theorem am_l2i_inv {pc : Nat} {ls : am_L} {st : List Value} {w : am_W} {o : am_R} (h : am_l2i pc ls st w = some o) : ∃ x r, st = .long x :: r ∧ o = .inl ((pc, ls, .int x.toInt32 :: r), w) := by
  unfold am_l2i at h
  split at h
  · exact ⟨_, _, by first | rfl | assumption, (Option.some.inj h).symm⟩
  · cases h
theorem am_lcmp_inv {pc : Nat} {ls : am_L} {st : List Value} {w : am_W} {o : am_R} (h : am_lcmp pc ls st w = some o) : ∃ x y r, st = .long y :: .long x :: r ∧ o = .inl ((pc, ls, .int (lg_cmp x y) :: r), w) := by
  unfold am_lcmp at h
  split at h
  · exact ⟨_, _, _, by first | rfl | assumption, (Option.some.inj h).symm⟩
  · cases h
theorem am_ints_inv {X : Option (List Int32)} {w : am_W} {a : Nat} {l : List Int32} (h : am_ints X w a = some l) : (a < am_B ∧ w[a]? = some (.inl (.inl (0, l)))) ∨ (a = am_B ∧ l = am_root) ∨ (a = am_B + 1 ∧ X = some l) := by
  unfold am_ints at h
  cases h1 : Nat.blt a am_B with
  | true =>
    rw [h1] at h
    simp only [cond_true] at h
    split at h
    · cases h
      exact Or.inl ⟨am_blt h1, by assumption⟩
    · cases h
  | false =>
    rw [h1] at h
    simp only [cond_false] at h
    cases h2 : Nat.beq a am_B with
    | true =>
      rw [h2] at h
      cases h
      exact Or.inr (Or.inl ⟨Nat.eq_of_beq_eq_true h2, rfl⟩)
    | false =>
      rw [h2] at h
      simp only [cond_false] at h
      obtain ⟨h3, h4⟩ := am_bif h
      exact Or.inr (Or.inr ⟨Nat.eq_of_beq_eq_true h3, h4⟩)
theorem am_iald_inv {X : Option (List Int32)} {pc : Nat} {ls : am_L} {st : List Value} {w : am_W} {o : am_R} (h : am_iald X pc ls st w = some o) : ∃ i a r l, st = .int i :: .ref a :: r ∧ am_ints X w a = some l ∧ vp_in i l.length ∧ o = .inl ((pc, ls, .int (l.getD i.toNatClampNeg 0) :: r), w) := by
  unfold am_iald at h
  split at h
  · split at h
    · obtain ⟨h1, h2⟩ := am_ife h
      exact ⟨_, _, _, _, by first | rfl | assumption, by assumption, h1, (Option.some.inj h2).symm⟩
    · cases h
  · cases h
theorem am_zald_inv {pc : Nat} {ls : am_L} {st : List Value} {w : am_W} {o : am_R} (h : am_zald pc ls st w = some o) : ∃ i a r l, st = .int i :: .ref a :: r ∧ w[a]? = some (.inl (.inl (1, l))) ∧ vp_in i l.length ∧ o = .inl ((pc, ls, .int (l.getD i.toNatClampNeg 0) :: r), w) := by
  unfold am_zald at h
  split at h
  · split at h
    · obtain ⟨h1, h2⟩ := am_ife h
      exact ⟨_, _, _, _, by first | rfl | assumption, by assumption, h1, (Option.some.inj h2).symm⟩
    · cases h
  · cases h
theorem am_lald_inv {pc : Nat} {ls : am_L} {st : List Value} {w : am_W} {o : am_R} (h : am_lald pc ls st w = some o) : ∃ i a r l, st = .int i :: .ref a :: r ∧ w[a]? = some (.inl (.inr (.inl l))) ∧ vp_in i l.length ∧ o = .inl ((pc, ls, .long (l.getD i.toNatClampNeg 0) :: r), w) := by
  unfold am_lald at h
  split at h
  · split at h
    · obtain ⟨h1, h2⟩ := am_ife h
      exact ⟨_, _, _, _, by first | rfl | assumption, by assumption, h1, (Option.some.inj h2).symm⟩
    · cases h
  · cases h
theorem am_aald_inv {pc : Nat} {ls : am_L} {st : List Value} {w : am_W} {o : am_R} (h : am_aald pc ls st w = some o) : ∃ i a r l q, st = .int i :: .ref a :: r ∧ w[a]? = some (.inl (.inr (.inr l))) ∧ vp_in i l.length ∧ l.getD i.toNatClampNeg none = some q ∧ o = .inl ((pc, ls, .ref q :: r), w) := by
  unfold am_aald at h
  split at h
  · split at h
    · obtain ⟨h1, h2⟩ := am_ife h
      split at h2
      · exact ⟨_, _, _, _, _, by first | rfl | assumption, by assumption, h1, by assumption, (Option.some.inj h2).symm⟩
      · cases h2
    · cases h
  · cases h
theorem am_iast_inv {pc : Nat} {ls : am_L} {st : List Value} {w : am_W} {o : am_R} (h : am_iast pc ls st w = some o) : ∃ x i a r l, st = .int x :: .int i :: .ref a :: r ∧ w[a]? = some (.inl (.inl (0, l))) ∧ vp_in i l.length ∧ o = .inl ((pc, ls, r), w.set a (.inl (.inl (0, l.set i.toNatClampNeg x)))) := by
  unfold am_iast at h
  split at h
  · split at h
    · obtain ⟨h1, h2⟩ := am_ife h
      exact ⟨_, _, _, _, _, by first | rfl | assumption, by assumption, h1, (Option.some.inj h2).symm⟩
    · cases h
  · cases h
theorem am_zast_inv {pc : Nat} {ls : am_L} {st : List Value} {w : am_W} {o : am_R} (h : am_zast pc ls st w = some o) : ∃ x i a r l, st = .int x :: .int i :: .ref a :: r ∧ w[a]? = some (.inl (.inl (1, l))) ∧ vp_in i l.length ∧ o = .inl ((pc, ls, r), w.set a (.inl (.inl (1, l.set i.toNatClampNeg (x &&& 1))))) := by
  unfold am_zast at h
  split at h
  · split at h
    · obtain ⟨h1, h2⟩ := am_ife h
      exact ⟨_, _, _, _, _, by first | rfl | assumption, by assumption, h1, (Option.some.inj h2).symm⟩
    · cases h
  · cases h
theorem am_last_inv {pc : Nat} {ls : am_L} {st : List Value} {w : am_W} {o : am_R} (h : am_last pc ls st w = some o) : ∃ x i a r l, st = .long x :: .int i :: .ref a :: r ∧ w[a]? = some (.inl (.inr (.inl l))) ∧ vp_in i l.length ∧ o = .inl ((pc, ls, r), w.set a (.inl (.inr (.inl (l.set i.toNatClampNeg x))))) := by
  unfold am_last at h
  split at h
  · split at h
    · obtain ⟨h1, h2⟩ := am_ife h
      exact ⟨_, _, _, _, _, by first | rfl | assumption, by assumption, h1, (Option.some.inj h2).symm⟩
    · cases h
  · cases h
theorem am_aast_inv {pc : Nat} {ls : am_L} {st : List Value} {w : am_W} {o : am_R} (h : am_aast pc ls st w = some o) : ∃ v i a r l fs, st = .ref v :: .int i :: .ref a :: r ∧ w[a]? = some (.inl (.inr (.inr l))) ∧ w[v]? = some (.inr (6, fs)) ∧ vp_in i l.length ∧ o = .inl ((pc, ls, r), w.set a (.inl (.inr (.inr (l.set i.toNatClampNeg (some v)))))) := by
  unfold am_aast at h
  split at h
  · split at h
    · obtain ⟨h1, h2⟩ := am_ife h
      exact ⟨_, _, _, _, _, _, by first | rfl | assumption, by assumption, by assumption, h1, (Option.some.inj h2).symm⟩
    · cases h
  · cases h
theorem am_alen_inv {X : Option (List Int32)} {pc : Nat} {ls : am_L} {st : List Value} {w : am_W} {o : am_R} (h : am_alen X pc ls st w = some o) : ∃ a r, st = .ref a :: r ∧ ((∃ l, w[a]? = some (.inl (.inr (.inl l))) ∧ o = .inl ((pc, ls, .int (Int32.ofNat l.length) :: r), w)) ∨ ∃ l, am_ints X w a = some l ∧ o = .inl ((pc, ls, .int (Int32.ofNat l.length) :: r), w)) := by
  unfold am_alen at h
  split at h
  · split at h
    · exact ⟨_, _, by first | rfl | assumption, Or.inl ⟨_, by assumption, (Option.some.inj h).symm⟩⟩
    · split at h
      · exact ⟨_, _, by first | rfl | assumption, Or.inr ⟨_, by assumption, (Option.some.inj h).symm⟩⟩
      · cases h
  · cases h
theorem am_newa_inv {ty : ArrayType} {pc : Nat} {ls : am_L} {st : List Value} {w : am_W} {o : am_R} (h : am_newa ty pc ls st w = some o) : ∃ n r, st = .int n :: r ∧ ¬ (n < 0 ∨ 100000 < n) ∧ am_okW w = true ∧ am_okL w.length ls = true ∧ am_okS w.length r = true ∧ w.length < am_B ∧ ∃ c, o = .inl ((pc, ls, .ref w.length :: r), w ++ [c]) ∧ ((ty = .int ∧ c = .inl (.inl (0, List.replicate n.toNatClampNeg 0))) ∨ (ty = .boolean ∧ c = .inl (.inl (1, List.replicate n.toNatClampNeg 0))) ∨ (ty = .long ∧ c = .inl (.inr (.inl (List.replicate n.toNatClampNeg 0))))) := by
  unfold am_newa at h
  split at h
  · obtain ⟨h1, h2⟩ := am_ife h
    obtain ⟨h3, h4⟩ := am_bif h2
    obtain ⟨h3, g4⟩ := am_and h3
    obtain ⟨h3, g3⟩ := am_and h3
    obtain ⟨g1, g2⟩ := am_and h3
    refine ⟨_, _, by first | rfl | assumption, h1, g1, g2, g3, am_blt g4, ?_⟩
    split at h4
    · exact ⟨_, (Option.some.inj h4).symm, Or.inl ⟨by first | rfl | assumption, rfl⟩⟩
    · exact ⟨_, (Option.some.inj h4).symm, Or.inr (Or.inl ⟨by first | rfl | assumption, rfl⟩)⟩
    · exact ⟨_, (Option.some.inj h4).symm, Or.inr (Or.inr ⟨by first | rfl | assumption, rfl⟩)⟩
    · cases h4
  · cases h
theorem am_newq_inv {pc : Nat} {ls : am_L} {st : List Value} {w : am_W} {o : am_R} (h : am_newq pc ls st w = some o) : ∃ n r, st = .int n :: r ∧ ¬ (n < 0 ∨ 100000 < n) ∧ am_okW w = true ∧ am_okL w.length ls = true ∧ am_okS w.length r = true ∧ w.length < am_B ∧ o = .inl ((pc, ls, .ref w.length :: r), w ++ [.inl (.inr (.inr (List.replicate n.toNatClampNeg none)))]) := by
  unfold am_newq at h
  split at h
  · obtain ⟨h1, h2⟩ := am_ife h
    obtain ⟨h3, h4⟩ := am_bif h2
    obtain ⟨h3, g4⟩ := am_and h3
    obtain ⟨h3, g3⟩ := am_and h3
    obtain ⟨g1, g2⟩ := am_and h3
    exact ⟨_, _, by first | rfl | assumption, h1, g1, g2, g3, am_blt g4, (Option.some.inj h4).symm⟩
  · cases h
theorem am_copy_inv {pc : Nat} {ls : am_L} {st : List Value} {w : am_W} {o : am_R} (h : am_copy pc ls st w = some o) : ∃ n dp a sp b r f g, st = .int n :: .int dp :: .ref a :: .int sp :: .ref b :: r ∧ w[a]? = some (.inl (.inl (0, g))) ∧ w[b]? = some (.inl (.inl (0, f))) ∧ ¬ n < 0 ∧ ¬ dp < 0 ∧ ¬ sp < 0 ∧ sp.toNatClampNeg + n.toNatClampNeg ≤ f.length ∧ dp.toNatClampNeg + n.toNatClampNeg ≤ g.length ∧ (r.map fun v => v.category).sum ≤ 8 ∧ o = .inl ((pc, ls, r), w.set a (.inl (.inl (0, am_cpy f g sp.toNatClampNeg dp.toNatClampNeg n.toNatClampNeg)))) := by
  unfold am_copy at h
  split at h
  · split at h
    · obtain ⟨h1, h2⟩ := am_ife h
      simp only [not_or, Nat.not_lt] at h1
      exact ⟨_, _, _, _, _, _, _, _, by first | rfl | assumption, by assumption, by assumption, h1.1, h1.2.1, h1.2.2.1, h1.2.2.2.1, h1.2.2.2.2.1, h1.2.2.2.2.2, (Option.some.inj h2).symm⟩
    · cases h
  · cases h
theorem am_getf_inv {oc idx pc : Nat} {ls : am_L} {st : List Value} {w : am_W} {o : am_R} (h : am_getf oc idx pc ls st w = some o) : ∃ a r ci k fs v, st = .ref a :: r ∧ am_find (am_fldT oc) idx = some (ci, k) ∧ w[a]? = some (.inr (ci, fs)) ∧ fs[k]? = some v ∧ o = .inl ((pc, ls, v :: r), w) := by
  unfold am_getf at h
  split at h
  · split at h
    · rename_i ci k hf
      split at h
      · rename_i cj fs hw
        obtain ⟨h1, h2⟩ := am_bif h
        have h3 := Nat.eq_of_beq_eq_true (am_and h1).1
        subst h3
        split at h2
        · exact ⟨_, _, _, _, _, _, by first | rfl | assumption, by assumption, by assumption, by assumption, (Option.some.inj h2).symm⟩
        · cases h2
      · cases h
    · cases h
  · cases h
theorem am_putf_inv {oc idx pc : Nat} {ini : Bool} {ls : am_L} {st : List Value} {w : am_W} {o : am_R} (h : am_putf oc ini idx pc ls st w = some o) : ∃ v a r ci k fs ty fin, st = v :: .ref a :: r ∧ am_find (am_fldT oc) idx = some (ci, k) ∧ w[a]? = some (.inr (ci, fs)) ∧ (am_ft ci)[k]? = some (ty, fin) ∧ am_fit ty v = true ∧ k < fs.length ∧ (fin = false ∨ (ini = true ∧ ci = oc)) ∧ o = .inl ((pc, ls, r), w.set a (.inr (ci, fs.set k v))) := by
  unfold am_putf at h
  split at h
  · split at h
    · rename_i ci k hf
      split at h
      · rename_i cj fs ty fin hw hft
        obtain ⟨y1, h2⟩ := am_bif h
        obtain ⟨h1, y3⟩ := am_and y1
        obtain ⟨h3, y4⟩ := am_and y3
        obtain ⟨h4, h5⟩ := am_and y4
        have h6 := Nat.eq_of_beq_eq_true h1
        subst h6
        refine ⟨_, _, _, _, _, _, _, _, by first | rfl | assumption, by assumption, by assumption, by assumption, h3, am_blt h4, ?_, (Option.some.inj h2).symm⟩
        cases fin with
        | false => exact Or.inl rfl
        | true =>
          simp only [Bool.not_true, Bool.false_or] at h5
          obtain ⟨h6, h7⟩ := am_and h5
          exact Or.inr ⟨h6, Nat.eq_of_beq_eq_true h7⟩
      · cases h
    · cases h
  · cases h
theorem am_new_inv {oc idx pc : Nat} {ls : am_L} {st : List Value} {w : am_W} {o : am_R} (h : am_new oc idx pc ls st w = some o) : ∃ ci, am_find (am_newT oc) idx = some ci ∧ am_okW w = true ∧ am_okL w.length ls = true ∧ am_okS w.length st = true ∧ w.length < am_B ∧ o = .inl ((pc, ls, .ref w.length :: st), w ++ [.inr (ci, (am_ft ci).map (fun q => am_dflt q.1))]) := by
  unfold am_new at h
  split at h
  · obtain ⟨h3, h4⟩ := am_bif h
    obtain ⟨h3, g4⟩ := am_and h3
    obtain ⟨h3, g3⟩ := am_and h3
    obtain ⟨g1, g2⟩ := am_and h3
    exact ⟨_, by assumption, g1, g2, g3, am_blt g4, (Option.some.inj h4).symm⟩
  · cases h
theorem am_cst_inv {oc idx pc : Nat} {two : Bool} {ls : am_L} {st : List Value} {w : am_W} {o : am_R} (h : am_cst oc idx pc two ls st w = some o) : (two = false ∧ ∃ x, am_find (am_cstT oc) idx = some (.int x) ∧ o = .inl ((pc, ls, .int x :: st), w)) ∨ (two = true ∧ ∃ x, am_find (am_cstT oc) idx = some (.long x) ∧ o = .inl ((pc, ls, .long x :: st), w)) := by
  unfold am_cst at h
  split at h
  · cases two with
    | true => cases h
    | false => exact Or.inl ⟨rfl, _, by assumption, (Option.some.inj h).symm⟩
  · cases two with
    | false => cases h
    | true => exact Or.inr ⟨rfl, _, by assumption, (Option.some.inj h).symm⟩
  · cases h
theorem am_ret_inv {rb : Nat} {st : List Value} {o : am_R} (h : am_ret rb st = some o) : (rb = 0 ∧ st = [] ∧ o = .inr (.inr none)) ∨ (∃ x, rb = 1 ∧ st = [.int x] ∧ o = .inr (.inr (some (.int x)))) ∨ (∃ x, rb = 2 ∧ st = [.int x] ∧ (x = 0 ∨ x = 1) ∧ o = .inr (.inr (some (.int x)))) ∨ (∃ x, rb = 3 ∧ st = [.long x] ∧ o = .inr (.inr (some (.long x)))) := by
  unfold am_ret at h
  split at h
  · exact Or.inl ⟨by first | rfl | assumption, by first | rfl | assumption, (Option.some.inj h).symm⟩
  · exact Or.inr (Or.inl ⟨_, by first | rfl | assumption, by first | rfl | assumption, (Option.some.inj h).symm⟩)
  · obtain ⟨h1, h2⟩ := am_ift h
    exact Or.inr (Or.inr (Or.inl ⟨_, by first | rfl | assumption, by first | rfl | assumption, h1, (Option.some.inj h2).symm⟩))
  · exact Or.inr (Or.inr (Or.inr ⟨_, by first | rfl | assumption, by first | rfl | assumption, (Option.some.inj h).symm⟩))
  · cases h
theorem am_mx_inv {pc : Nat} {ls : am_L} {st : List Value} {w : am_W} {o : am_R} (h : am_mx pc ls st w = some o) : ∃ x y r, st = .int y :: .int x :: r ∧ (r.map fun v => v.category).sum ≤ 8 ∧ o = .inl ((pc, ls, .int (if x < y then y else x) :: r), w) := by
  unfold am_mx at h
  split at h
  · obtain ⟨h1, h2⟩ := am_ife h
    exact ⟨_, _, _, by first | rfl | assumption, Nat.not_lt.mp h1, (Option.some.inj h2).symm⟩
  · cases h
theorem am_mn_inv {pc : Nat} {ls : am_L} {st : List Value} {w : am_W} {o : am_R} (h : am_mn pc ls st w = some o) : ∃ x y r, st = .int y :: .int x :: r ∧ (r.map fun v => v.category).sum ≤ 8 ∧ o = .inl ((pc, ls, .int (if y < x then y else x) :: r), w) := by
  unfold am_mn at h
  split at h
  · obtain ⟨h1, h2⟩ := am_ife h
    exact ⟨_, _, _, by first | rfl | assumption, Nat.not_lt.mp h1, (Option.some.inj h2).symm⟩
  · cases h
theorem am_jdk_inv {kd pc : Nat} {ls : am_L} {st : List Value} {w : am_W} {o : am_R} (h : am_jdk kd pc ls st w = some o) : (kd = 6 ∧ am_copy pc ls st w = some o) ∨ (kd = 8 ∧ am_mx pc ls st w = some o) ∨ (kd = 9 ∧ am_mn pc ls st w = some o) := by
  unfold am_jdk at h
  cases h6 : Nat.beq kd 6 with
  | true =>
    rw [h6] at h
    exact Or.inl ⟨Nat.eq_of_beq_eq_true h6, h⟩
  | false =>
    rw [h6] at h
    simp only [cond_false] at h
    cases h8 : Nat.beq kd 8 with
    | true =>
      rw [h8] at h
      exact Or.inr (Or.inl ⟨Nat.eq_of_beq_eq_true h8, h⟩)
    | false =>
      rw [h8] at h
      simp only [cond_false] at h
      obtain ⟨h1, h2⟩ := am_bif h
      exact Or.inr (Or.inr ⟨Nat.eq_of_beq_eq_true h1, h2⟩)
/-- a call: either the JDK's, or Object's constructor, or a method of the tables -/
theorem am_call_inv {u oc idx pc : Nat} {ls : am_L} {st : List Value} {w : am_W} {o : am_R} (h : am_call u oc idx pc ls st w = some o) : ∃ kd z n, am_find (am_invT oc) idx = some (kd, z, n) ∧ ((u = 1 ∧ am_jdk kd pc ls st w = some o) ∨ (kd = 7 ∧ u = 2 ∧ ∃ a r, st = .ref a :: r ∧ (r.map fun v => v.category).sum ≤ 8 ∧ o = .inl ((pc, ls, r), w)) ∨ (kd < 6 ∧ kd % 3 = u ∧ u = 1 ∧ n ≤ st.length ∧ ((st.drop n).map fun v => v.category).sum ≤ 8 ∧ o = .inr (.inl (z, (st.take n).reverse, (pc, ls, st.drop n)))) ∨ (kd < 6 ∧ kd % 3 = u ∧ u ≠ 1 ∧ ∃ a r fs, st.drop n = .ref a :: r ∧ (r.map fun v => v.category).sum ≤ 8 ∧ w[a]? = some (.inr ((am_mi z).1, fs)) ∧ o = .inr (.inl (z, .ref a :: (st.take n).reverse, (pc, ls, r))))) := by
  unfold am_call at h
  split at h
  · rename_i kd z n hf
    refine ⟨kd, z, n, hf, ?_⟩
    cases h6 : Nat.blt kd 6 with
    | true =>
      rw [h6] at h
      simp only [cond_true] at h
      have n6 : kd < 6 := am_blt h6
      obtain ⟨hm, h⟩ := am_bif h
      have hm := Nat.eq_of_beq_eq_true hm
      cases h1 : Nat.beq u 1 with
      | true =>
        rw [h1] at h
        simp only [cond_true] at h
        obtain ⟨h2, h5⟩ := am_ife h
        simp only [not_or, Nat.not_lt] at h2
        exact Or.inr (Or.inr (Or.inl ⟨n6, hm, Nat.eq_of_beq_eq_true h1, h2.1, h2.2, (Option.some.inj h5).symm⟩))
      | false =>
        rw [h1] at h
        simp only [cond_false] at h
        split at h
        · rename_i a r hst
          obtain ⟨h2, h5⟩ := am_ife h
          split at h5
          · rename_i ci fs hw
            obtain ⟨h8, h9⟩ := am_bif h5
            have h8 := Nat.eq_of_beq_eq_true h8
            subst h8
            exact Or.inr (Or.inr (Or.inr ⟨n6, hm, Nat.ne_of_beq_eq_false h1, a, r, fs, hst, Nat.not_lt.mp h2, hw, (Option.some.inj h9).symm⟩))
          · cases h5
        · cases h
    | false =>
      rw [h6] at h
      simp only [cond_false] at h
      cases h7 : Nat.beq kd 7 with
      | true =>
        rw [h7] at h
        simp only [cond_true] at h
        obtain ⟨h1, h2⟩ := am_bif h
        split at h2
        · obtain ⟨h3, h4⟩ := am_ife h2
          exact Or.inr (Or.inl ⟨Nat.eq_of_beq_eq_true h7, Nat.eq_of_beq_eq_true h1, _, _, by first | rfl | assumption, Nat.not_lt.mp h3, (Option.some.inj h4).symm⟩)
        · cases h2
      | false =>
        rw [h7] at h
        simp only [cond_false] at h
        obtain ⟨h1, h2⟩ := am_bif h
        exact Or.inl ⟨Nat.eq_of_beq_eq_true h1, h2⟩
  · cases h
