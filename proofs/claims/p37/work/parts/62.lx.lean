/-! ===== steps of the law: the script may be read ===== -/
noncomputable def sx (X : List Int32) (i : Int) : Int32 := X.getD i.toNat 0
section LX
variable {X : List Int32} {d k : Nat} {Q : Option Value → am_W → Prop} {pc : Nat} {ls : am_L} {st : List Value} {w : am_W} {len : Nat}
theorem x_i {ins : Instr} {pc1 : Nat} {ls1 : am_L} {st1 : List Value} {v : Int32} (hf : am_find (am_code k) pc = some (ins, len)) (hi : am_ins (some X) (am_mi k).1 (am_mi k).2.2.1 (am_mi k).2.2.2 ins pc ls st w = some (.inl ((pc1, ls1, .int v :: st1), w))) (h : ∀ z, z = v → aw (some X) d k Q (pc1, ls1, .int z :: st1) w) : aw (some X) d k Q (pc, ls, st) w := aw_step hf hi (h v rfl)
theorem x_l {ins : Instr} {pc1 : Nat} {ls1 : am_L} {st1 : List Value} {v : Int64} (hf : am_find (am_code k) pc = some (ins, len)) (hi : am_ins (some X) (am_mi k).1 (am_mi k).2.2.1 (am_mi k).2.2.2 ins pc ls st w = some (.inl ((pc1, ls1, .long v :: st1), w))) (h : ∀ z, z = v → aw (some X) d k Q (pc1, ls1, .long z :: st1) w) : aw (some X) d k Q (pc, ls, st) w := aw_step hf hi (h v rfl)
theorem x_ic {c : ClassFile.Cond} {o : Int} {x y : Int32} (t u : Nat) (hf : am_find (am_code k) pc = some (.if_icmp c o, len)) (ht : (pc : Int) + o = .ofNat t) (hu : pc + 3 = u) (h1 : ab_P c x.toInt y.toInt → aw (some X) d k Q (t, ls, st) w) (h2 : ¬ ab_P c x.toInt y.toInt → aw (some X) d k Q (u, ls, st) w) : aw (some X) d k Q (pc, ls, .int y :: .int x :: st) w := by
  subst hu
  cases hq : am_cc c x y with
  | true => exact aw_step hf (f1 := (t, ls, st)) (w1 := w) (by show am_icmp c pc o ls (.int y :: .int x :: st) w = some (.inl ((t, ls, st), w)); unfold am_icmp; rw [ht]; simp only; rw [hq]; rfl) (h1 ((ab_cc c x y).mp hq))
  | false => exact aw_step hf (f1 := (pc + 3, ls, st)) (w1 := w) (by show am_icmp c pc o ls (.int y :: .int x :: st) w = some (.inl ((pc + 3, ls, st), w)); unfold am_icmp; rw [ht]; simp only; rw [hq]; rfl) (h2 (fun z => by rw [(ab_cc c x y).mpr z] at hq; cases hq))
theorem x_if {c : ClassFile.Cond} {o : Int} {x : Int32} (t u : Nat) (hf : am_find (am_code k) pc = some (.ifCond c o, len)) (ht : (pc : Int) + o = .ofNat t) (hu : pc + 3 = u) (h1 : ab_P c x.toInt 0 → aw (some X) d k Q (t, ls, st) w) (h2 : ¬ ab_P c x.toInt 0 → aw (some X) d k Q (u, ls, st) w) : aw (some X) d k Q (pc, ls, .int x :: st) w := by
  subst hu
  cases hq : am_cc c x 0 with
  | true => exact aw_step hf (f1 := (t, ls, st)) (w1 := w) (by show am_if c pc o ls (.int x :: st) w = some (.inl ((t, ls, st), w)); unfold am_if; rw [ht]; simp only; rw [hq]; rfl) (h1 ((ab_cc c x 0).mp hq))
  | false => exact aw_step hf (f1 := (pc + 3, ls, st)) (w1 := w) (by show am_if c pc o ls (.int x :: st) w = some (.inl ((pc + 3, ls, st), w)); unfold am_if; rw [ht]; simp only; rw [hq]; rfl) (h2 (fun z => by rw [(ab_cc c x 0).mpr z] at hq; cases hq))
theorem x_lc {c : ClassFile.Cond} {o : Int} {x y : Int64} {len2 : Nat} (t u v : Nat) (hf : am_find (am_code k) pc = some (.lcmp, len)) (hv : pc + 1 = v) (hf2 : am_find (am_code k) v = some (.ifCond c o, len2)) (ht : (v : Int) + o = .ofNat t) (hu : v + 3 = u) (h1 : ab_P c x.toInt y.toInt → aw (some X) d k Q (t, ls, st) w) (h2 : ¬ ab_P c x.toInt y.toInt → aw (some X) d k Q (u, ls, st) w) : aw (some X) d k Q (pc, ls, .long y :: .long x :: st) w := by
  subst hu
  subst hv
  refine aw_step hf (f1 := (pc + 1, ls, .int (lg_cmp x y) :: st)) (w1 := w) rfl ?_
  cases hq : am_cc c (lg_cmp x y) 0 with
  | true => exact aw_step hf2 (f1 := (t, ls, st)) (w1 := w) (by show am_if c (pc + 1) o ls (.int (lg_cmp x y) :: st) w = some (.inl ((t, ls, st), w)); unfold am_if; rw [ht]; simp only; rw [hq]; rfl) (h1 ((ab_lc c x y).mp hq))
  | false => exact aw_step hf2 (f1 := (pc + 1 + 3, ls, st)) (w1 := w) (by show am_if c (pc + 1) o ls (.int (lg_cmp x y) :: st) w = some (.inl ((pc + 1 + 3, ls, st), w)); unfold am_if; rw [ht]; simp only; rw [hq]; rfl) (h2 (fun z => by rw [(ab_lc c x y).mpr z] at hq; cases hq))
theorem x_swd {df lo hi : Int} {offs : Array Int} {x : Int32} (t : Nat) (hf : am_find (am_code k) pc = some (.tableswitch df lo hi offs, len)) (ht : (pc : Int) + df = .ofNat t) (hx : x.toInt < lo ∨ hi < x.toInt) (h : aw (some X) d k Q (t, ls, st) w) : aw (some X) d k Q (pc, ls, .int x :: st) w := by
  refine aw_step hf (f1 := (t, ls, st)) (w1 := w) ?_ h
  show am_sw df lo hi offs pc ls (.int x :: st) w = _
  unfold am_sw
  simp only
  rw [if_pos hx]
  unfold am_jmp
  rw [ht]
  rfl
theorem x_swj {df lo hi o : Int} {offs : Array Int} {x : Int32} {j : Nat} (t : Nat) (hf : am_find (am_code k) pc = some (.tableswitch df lo hi offs, len)) (h1 : lo ≤ x.toInt) (h2 : x.toInt ≤ hi) (hx : x.toInt = lo + j) (ho : offs.toList[j]? = some o) (ht : (pc : Int) + o = .ofNat t) (h : aw (some X) d k Q (t, ls, st) w) : aw (some X) d k Q (pc, ls, .int x :: st) w := by
  refine aw_step hf (f1 := (t, ls, st)) (w1 := w) ?_ h
  show am_sw df lo hi offs pc ls (.int x :: st) w = _
  unfold am_sw
  simp only
  rw [if_neg (by omega), show (x.toInt - lo).toNat = j by omega, ho]
  simp only
  unfold am_jmp
  rw [ht]
  rfl
theorem x_ia {i : Int32} (u : Nat) (hf : am_find (am_code k) pc = some (.iaload, len)) (hu : pc + 1 = u) (h0 : 0 ≤ i.toInt) (h1 : i.toInt < X.length) (h : aw (some X) d k Q (u, ls, .int (sx X i.toInt) :: st) w) : aw (some X) d k Q (pc, ls, .int i :: .ref (am_B + 1) :: st) w := by
  subst hu
  refine aw_step hf (f1 := (pc + 1, ls, .int (sx X i.toInt) :: st)) (w1 := w) ?_ h
  show am_iald (some X) (pc + 1) ls (.int i :: .ref (am_B + 1) :: st) w = _
  have e : am_ints (some X) w (am_B + 1) = some X := rfl
  unfold am_iald
  simp only
  rw [e]
  simp only
  rw [if_neg (am_oob h0 h1), am_nat h0]
  rfl
theorem x_len (u : Nat) (hf : am_find (am_code k) pc = some (.arraylength, len)) (hu : pc + 1 = u) (hw : w.length = 89) (hX : X.length ≤ 384) (h : ∀ n : Int32, n.toInt = X.length → aw (some X) d k Q (u, ls, .int n :: st) w) : aw (some X) d k Q (pc, ls, .ref (am_B + 1) :: st) w := by
  subst hu
  refine aw_step hf (f1 := (pc + 1, ls, .int (Int32.ofNat X.length) :: st)) (w1 := w) ?_ (h _ ?_)
  · show am_alen (some X) (pc + 1) ls (.ref (am_B + 1) :: st) w = _
    have e : am_ints (some X) w (am_B + 1) = some X := rfl
    have n : w[am_B + 1]? = none := List.getElem?_eq_none (by rw [hw]; decide)
    unfold am_alen
    simp only
    rw [n]
    simp only
    rw [e]
    rfl
  · rw [Int32.toInt_ofNat_of_lt (by omega)]
theorem x_cv {T : List ab_C} {sets : List (List Nat)} {idx z n p ci : Nat} {as : List Value} {st1 : List Value} {ts : List ab_F} {Q1 : Option Value → am_W → Prop} {kd : Nat} (I : ab_inv T sets w) (u : Nat) (hf : am_find (am_code k) pc = some (.invokevirtual idx, len)) (hu : pc + 3 = u) (hz : am_find (am_invT (am_mi k).1) idx = some (kd, z, n)) (hk : (Nat.blt kd 6 && Nat.beq (kd % 3) 0) = true) (hT : T[p]? = some (.inr (ci, ts))) (hci : Nat.beq ci (am_mi z).1 = true) (hst : st.take n = as.reverse) (hst1 : st.drop n = .ref p :: st1) (hcat : (st1.map fun v => v.category).sum ≤ 8) (ha : (am_args (.ref p :: as)).length ≤ (am_mi z).2.1) (hc : aw none d z Q1 (0, am_entry z (.ref p :: as), []) w) (h : ∀ r w1, Q1 r w1 → w1.length = w.length ∧ aw (some X) (d + 1) k Q (u, ls, r.toList ++ st1) w1) : aw (some X) (d + 1) k Q (pc, ls, st) w := by
  subst hu
  obtain ⟨k1, k2⟩ := am_and hk
  obtain ⟨q, w1, fs, rfl, f1, f2⟩ := I.2 _ _ hT
  refine aw_call hf (z := z) (pc1 := pc + 3) (as := .ref p :: as) (ls1 := ls) (st1 := st1) ?_ ha hc.lift h
  show am_call 0 (am_mi k).1 idx (pc + 3) ls st w = _
  unfold am_call
  rw [hz]
  simp only
  rw [k1, k2, hst, hst1]
  simp only [cond_true]
  rw [show Nat.beq 0 1 = false from rfl]
  simp only [cond_false]
  rw [if_neg (by omega), w1]
  simp only
  rw [hci, List.reverse_reverse]
  rfl
/-- a constructor's call: the world grows -/
theorem aw_grow {X : Option (List Int32)} {ins : Instr} {z pc1 : Nat} {as : List Value} {ls1 : am_L} {st1 : List Value} {w2 : am_W} (hf : am_find (am_code k) pc = some (ins, len)) (hi : am_ins X (am_mi k).1 (am_mi k).2.2.1 (am_mi k).2.2.2 ins pc ls st w = some (.inr (.inl (z, as, (pc1, ls1, st1))))) (ha : Nat.ble (am_args as).length (am_mi z).2.1 = true) (hc : aw X d z (fun r w1 => r = none ∧ w1 = w2) (0, am_entry z as, []) w) (hb : (am_okL w.length ls1 && am_okS w.length st1) = true) (h : aw X (d + 1) k Q (pc1, ls1, st1) w2) : aw X (d + 1) k Q (pc, ls, st) w := by
  obtain ⟨n1, r1, w1, h1, rfl, rfl⟩ := hc
  obtain ⟨n2, r, w', h3, h4⟩ := h
  refine ⟨n1 + n2 + 1, r, w', ?_, h4⟩
  rw [am_run, hf]
  simp only
  rw [hi]
  simp only
  have h6 : am_run X (n1 + n2) d z (0, am_entry z as, []) w = some (none, w1) := am_more n2 0 h1
  rw [ha, h6]
  simp only [cond_true]
  rw [hb]
  simp only [Bool.or_true, cond_true]
  have h5 := am_more n1 0 h3
  rw [Nat.add_comm n2 n1] at h5
  exact h5
end LX
/-! land, with its answer -/
theorem ovc_land {w : am_W} (a b : Int32) (H : SI w) : aw none 40 60 (fun r w1 => (SI w1 ∧ w1.length = w.length) ∧ ∃ z : Int32, r = some (.int z) ∧ z.toInt = lnV a.toInt b.toInt) (0, am_entry 60 [.ref 0, .int a, .int b], []) w := ((c_land (d := 0) a b H.1).deep (by omega)).mono fun r w1 q => ⟨H.w2 q.1, q.2⟩
theorem ovm_land {w : am_W} (a b : Int32) (H : SI w) : aw none 40 118 (fun r w1 => (SI w1 ∧ w1.length = w.length) ∧ ∃ z : Int32, r = some (.int z) ∧ z.toInt = lnV a.toInt b.toInt) (0, am_entry 118 [.ref 65, .int a, .int b], []) w := ((q_land (d := 0) a b H.1).deep (by omega)).mono fun r w1 q => ⟨H.w2 q.1, q.2⟩
