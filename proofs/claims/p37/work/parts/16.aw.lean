/-! ===== runs: more steps, more depth, a script: the same ===== -/
set_option maxHeartbeats 1000000 in
theorem am_more {X : Option (List Int32)} : ∀ {n d k : Nat} {f : am_F} {w : am_W} {o : Option Value × am_W} (m e : Nat), am_run X n d k f w = some o → am_run X (n + m) (d + e) k f w = some o
  | 0, _, _, _, _, _, _, _, h => by cases h
  | n + 1, d, k, (pc, ls, st), w, o, m, e, h => by
    rw [show n + 1 + m = (n + m) + 1 by omega]
    rw [am_run] at h ⊢
    cases hf : am_find (am_code k) pc with
    | none => rw [hf] at h; cases h
    | some q =>
      obtain ⟨ins, len⟩ := q
      rw [hf] at h
      simp only at h ⊢
      cases hi : am_ins X (am_mi k).1 (am_mi k).2.2.1 (am_mi k).2.2.2 ins pc ls st w with
      | none => rw [hi] at h; cases h
      | some q =>
        rw [hi] at h
        match q, h with
        | .inl (f1, w1), h =>
          simp only at h ⊢
          exact am_more m e h
        | .inr (.inl (z, as, (pc1, ls1, st1))), h =>
          simp only at h ⊢
          cases d with
          | zero => cases h
          | succ d1 =>
            rw [show d1 + 1 + e = (d1 + e) + 1 by omega]
            simp only at h ⊢
            obtain ⟨h1, h2⟩ := am_bif h
            rw [h1]
            simp only [cond_true]
            cases hr : am_run X n d1 z (0, am_entry z as, []) w with
            | none => rw [hr] at h2; cases h2
            | some q2 =>
              obtain ⟨r, w1⟩ := q2
              rw [hr] at h2
              rw [am_more m e hr]
              simp only at h2 ⊢
              obtain ⟨h3, h4⟩ := am_bif h2
              rw [h3]
              simp only [cond_true]
              have h5 := am_more m e h4
              rw [show d1 + 1 + e = (d1 + e) + 1 by omega] at h5
              exact h5
        | .inr (.inr v), h => exact h
theorem am_ints_some {X : List Int32} {w : am_W} {a : Nat} {l : List Int32} (h : am_ints none w a = some l) : am_ints (some X) w a = some l := by
  rcases am_ints_inv h with ⟨h1, h2⟩ | ⟨h1, h2⟩ | ⟨h1, h2⟩
  · unfold am_ints
    have : Nat.blt a am_B = true := Nat.ble_eq_true_of_le h1
    rw [this, h2]
    rfl
  · subst h1
    subst h2
    rfl
  · cases h2
theorem am_ins_some {X : List Int32} {oc rb : Nat} {ini : Bool} {ins : Instr} {pc : Nat} {ls : am_L} {st : List Value} {w : am_W} {o : am_R} (h : am_ins none oc rb ini ins pc ls st w = some o) : am_ins (some X) oc rb ini ins pc ls st w = some o := by
  cases ins
  case iaload =>
    obtain ⟨i, a, r, l2, rfl, h1, h2, e⟩ := am_iald_inv h
    show am_iald (some X) (pc + 1) ls (.int i :: .ref a :: r) w = some o
    unfold am_iald
    simp only [am_ints_some h1]
    rw [if_neg h2, e]
    rfl
  case arraylength =>
    obtain ⟨a, r, rfl, -⟩ := am_alen_inv h
    have h9 : am_alen none (pc + 1) ls (.ref a :: r) w = some o := h
    show am_alen (some X) (pc + 1) ls (.ref a :: r) w = some o
    have key : ∀ l, am_ints none w a = some l → am_ints (some X) w a = some l := fun l => am_ints_some
    unfold am_alen at h9 ⊢
    simp only at h9 ⊢
    generalize am_ints none w a = i0 at h9 key
    generalize am_ints (some X) w a = i1 at key ⊢
    generalize w[a]? = q at h9 ⊢
    rcases q with _ | ((t | (l | l)) | o2)
    · cases i0 with
      | none => cases h9
      | some l => rw [key l rfl]; exact h9
    · cases i0 with
      | none => cases h9
      | some l => rw [key l rfl]; exact h9
    · exact h9
    · cases i0 with
      | none => cases h9
      | some l => rw [key l rfl]; exact h9
    · cases i0 with
      | none => cases h9
      | some l => rw [key l rfl]; exact h9
  all_goals exact h
theorem am_some {X : List Int32} : ∀ {n d k : Nat} {f : am_F} {w : am_W} {o : Option Value × am_W}, am_run none n d k f w = some o → am_run (some X) n d k f w = some o
  | 0, _, _, _, _, _, h => by cases h
  | n + 1, d, k, (pc, ls, st), w, o, h => by
    rw [am_run] at h ⊢
    cases hf : am_find (am_code k) pc with
    | none => rw [hf] at h; cases h
    | some q =>
      obtain ⟨ins, len⟩ := q
      rw [hf] at h
      simp only at h ⊢
      cases hi : am_ins none (am_mi k).1 (am_mi k).2.2.1 (am_mi k).2.2.2 ins pc ls st w with
      | none => rw [hi] at h; cases h
      | some q =>
        rw [hi] at h
        rw [am_ins_some hi]
        match q, h with
        | .inl (f1, w1), h => exact am_some h
        | .inr (.inl (z, as, (pc1, ls1, st1))), h =>
          simp only at h ⊢
          cases d with
          | zero => cases h
          | succ d1 =>
            simp only at h ⊢
            obtain ⟨h1, h2⟩ := am_bif h
            rw [h1]
            simp only [cond_true]
            cases hr : am_run none n d1 z (0, am_entry z as, []) w with
            | none => rw [hr] at h2; cases h2
            | some q2 =>
              obtain ⟨r, w1⟩ := q2
              rw [hr] at h2
              rw [am_some hr]
              simp only at h2 ⊢
              obtain ⟨h3, h4⟩ := am_bif h2
              rw [h3]
              simp only [cond_true]
              exact am_some h4
        | .inr (.inr v), h => exact h
/-! ===== it runs to an end, with Q ===== -/
noncomputable def aw (X : Option (List Int32)) (d k : Nat) (Q : Option Value → am_W → Prop) (f : am_F) (w : am_W) : Prop := ∃ n r w', am_run X n d k f w = some (r, w') ∧ Q r w'
theorem aw.mono {X : Option (List Int32)} {d k : Nat} {Q Q' : Option Value → am_W → Prop} {f : am_F} {w : am_W} (h : aw X d k Q f w) (hQ : ∀ r w', Q r w' → Q' r w') : aw X d k Q' f w := by
  obtain ⟨n, r, w', h1, h2⟩ := h
  exact ⟨n, r, w', h1, hQ r w' h2⟩
theorem aw.deep {X : Option (List Int32)} {d k : Nat} {Q : Option Value → am_W → Prop} {f : am_F} {w : am_W} (h : aw X d k Q f w) {d' : Nat} (hd : d ≤ d') : aw X d' k Q f w := by
  obtain ⟨n, r, w', h1, h2⟩ := h
  have h3 := am_more 0 (d' - d) h1
  rw [show d + (d' - d) = d' by omega] at h3
  exact ⟨n, r, w', h3, h2⟩
theorem aw.lift {X : List Int32} {d k : Nat} {Q : Option Value → am_W → Prop} {f : am_F} {w : am_W} (h : aw none d k Q f w) : aw (some X) d k Q f w := by
  obtain ⟨n, r, w', h1, h2⟩ := h
  exact ⟨n, r, w', am_some h1, h2⟩
section AW
variable {X : Option (List Int32)} {d k : Nat} {Q : Option Value → am_W → Prop} {pc : Nat} {ls : am_L} {st : List Value} {w : am_W} {ins : Instr} {len : Nat}
theorem aw_step {f1 : am_F} {w1 : am_W} (hf : am_find (am_code k) pc = some (ins, len)) (hi : am_ins X (am_mi k).1 (am_mi k).2.2.1 (am_mi k).2.2.2 ins pc ls st w = some (.inl (f1, w1))) (h : aw X d k Q f1 w1) : aw X d k Q (pc, ls, st) w := by
  obtain ⟨n, r, w', h1, h2⟩ := h
  refine ⟨n + 1, r, w', ?_, h2⟩
  rw [am_run, hf]
  simp only
  rw [hi]
  exact h1
theorem aw_ret {v : Option Value} (hf : am_find (am_code k) pc = some (ins, len)) (hi : am_ins X (am_mi k).1 (am_mi k).2.2.1 (am_mi k).2.2.2 ins pc ls st w = some (.inr (.inr v))) (h : Q v w) : aw X d k Q (pc, ls, st) w := by
  refine ⟨1, v, w, ?_, h⟩
  rw [am_run, hf]
  simp only
  rw [hi]
theorem aw_call {z pc1 : Nat} {as : List Value} {ls1 : am_L} {st1 : List Value} {Q1 : Option Value → am_W → Prop} (hf : am_find (am_code k) pc = some (ins, len)) (hi : am_ins X (am_mi k).1 (am_mi k).2.2.1 (am_mi k).2.2.2 ins pc ls st w = some (.inr (.inl (z, as, (pc1, ls1, st1))))) (ha : (am_args as).length ≤ (am_mi z).2.1) (hc : aw X d z Q1 (0, am_entry z as, []) w) (h : ∀ r w1, Q1 r w1 → w1.length = w.length ∧ aw X (d + 1) k Q (pc1, ls1, r.toList ++ st1) w1) : aw X (d + 1) k Q (pc, ls, st) w := by
  obtain ⟨n1, r1, w1, h1, h2⟩ := hc
  obtain ⟨hw, n2, r, w', h3, h4⟩ := h r1 w1 h2
  refine ⟨n1 + n2 + 1, r, w', ?_, h4⟩
  rw [am_run, hf]
  simp only
  rw [hi]
  simp only
  have h6 : am_run X (n1 + n2) d z (0, am_entry z as, []) w = some (r1, w1) := am_more n2 0 h1
  rw [Nat.ble_eq_true_of_le ha, h6]
  simp only [cond_true]
  have hb : Nat.beq w1.length w.length = true := by rw [hw]; exact Nat.beq_refl _
  rw [hb]
  simp only [Bool.true_or, cond_true]
  have h5 := am_more n1 0 h3
  rw [Nat.add_comm n2 n1] at h5
  exact h5
end AW
