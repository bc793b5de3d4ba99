/-! ===== steps, for walks by hand over a typed world ===== -/
noncomputable def am_fs (w : am_W) (p : Nat) : List Value := match w[p]? with
  | some (.inr (_, fs)) => fs
  | _ => []
noncomputable def am_fv (w : am_W) (p kf : Nat) : Option Value := (am_fs w p)[kf]?
noncomputable def am_row (w : am_W) (p : Nat) : List Int32 := match w[p]? with
  | some (.inl (.inl (_, l))) => l
  | _ => []
noncomputable def am_rowl (w : am_W) (p : Nat) : List Int64 := match w[p]? with
  | some (.inl (.inr (.inl l))) => l
  | _ => []
theorem am_fs_ne {w : am_W} {p q : Nat} {c : am_C} (h : q ≠ p) : am_fs (w.set q c) p = am_fs w p := by unfold am_fs; rw [List.getElem?_set_ne h]
theorem am_fv_ne {w : am_W} {p q kf : Nat} {c : am_C} (h : q ≠ p) : am_fv (w.set q c) p kf = am_fv w p kf := by unfold am_fv; rw [am_fs_ne h]
theorem am_row_ne {w : am_W} {p q : Nat} {c : am_C} (h : q ≠ p) : am_row (w.set q c) p = am_row w p := by unfold am_row; rw [List.getElem?_set_ne h]
theorem am_rowl_ne {w : am_W} {p q : Nat} {c : am_C} (h : q ≠ p) : am_rowl (w.set q c) p = am_rowl w p := by unfold am_rowl; rw [List.getElem?_set_ne h]
theorem am_row_eq {w : am_W} {p c : Nat} {l : List Int32} (h : p < w.length) : am_row (w.set p (.inl (.inl (c, l)))) p = l := by unfold am_row; rw [List.getElem?_set_self h]
theorem am_rowl_eq {w : am_W} {p : Nat} {l : List Int64} (h : p < w.length) : am_rowl (w.set p (.inl (.inr (.inl l)))) p = l := by unfold am_rowl; rw [List.getElem?_set_self h]
theorem am_fs_eq {w : am_W} {p c : Nat} {l : List Value} (h : p < w.length) : am_fs (w.set p (.inr (c, l))) p = l := by unfold am_fs; rw [List.getElem?_set_self h]
theorem am_nat {i : Int32} (h : 0 ≤ i.toInt) : i.toNatClampNeg = i.toInt.toNat := rfl
theorem am_oob {i : Int32} {n : Nat} (h1 : 0 ≤ i.toInt) (h2 : i.toInt < (n : Int)) : ¬ (i < 0 ∨ n ≤ i.toNatClampNeg) := by
  intro h
  rcases h with h | h
  · have := Int32.lt_iff_toInt_lt.mp h
    have z0 : (0 : Int32).toInt = 0 := rfl
    omega
  · rw [am_nat h1] at h
    omega
section ST
variable {d k : Nat} {Q : Option Value → am_W → Prop} {pc : Nat} {ls : am_L} {st : List Value} {w w0 : am_W} {len : Nat} {T : List ab_C} {sets : List (List Nat)} {wr : ab_wT}
theorem s_i {ins : Instr} {pc1 : Nat} {ls1 : am_L} {st1 : List Value} {v : Int32} (hf : am_find (am_code k) pc = some (ins, len)) (hi : am_ins none (am_mi k).1 (am_mi k).2.2.1 (am_mi k).2.2.2 ins pc ls st w = some (.inl ((pc1, ls1, .int v :: st1), w))) (h : ∀ z, z = v → aw none d k Q (pc1, ls1, .int z :: st1) w) : aw none d k Q (pc, ls, st) w := aw_step hf hi (h v rfl)
theorem s_l {ins : Instr} {pc1 : Nat} {ls1 : am_L} {st1 : List Value} {v : Int64} (hf : am_find (am_code k) pc = some (ins, len)) (hi : am_ins none (am_mi k).1 (am_mi k).2.2.1 (am_mi k).2.2.2 ins pc ls st w = some (.inl ((pc1, ls1, .long v :: st1), w))) (h : ∀ z, z = v → aw none d k Q (pc1, ls1, .long z :: st1) w) : aw none d k Q (pc, ls, st) w := aw_step hf hi (h v rfl)
theorem s_ic {c : ClassFile.Cond} {o : Int} {x y : Int32} (t u : Nat) (hf : am_find (am_code k) pc = some (.if_icmp c o, len)) (ht : (pc : Int) + o = .ofNat t) (hu : pc + 3 = u) (h1 : ab_P c x.toInt y.toInt → aw none d k Q (t, ls, st) w) (h2 : ¬ ab_P c x.toInt y.toInt → aw none d k Q (u, ls, st) w) : aw none d k Q (pc, ls, .int y :: .int x :: st) w := by
  subst hu
  cases hq : am_cc c x y with
  | true => exact aw_step hf (f1 := (t, ls, st)) (w1 := w) (by show am_icmp c pc o ls (.int y :: .int x :: st) w = some (.inl ((t, ls, st), w)); unfold am_icmp; rw [ht]; simp only; rw [hq]; rfl) (h1 ((ab_cc c x y).mp hq))
  | false => exact aw_step hf (f1 := (pc + 3, ls, st)) (w1 := w) (by show am_icmp c pc o ls (.int y :: .int x :: st) w = some (.inl ((pc + 3, ls, st), w)); unfold am_icmp; rw [ht]; simp only; rw [hq]; rfl) (h2 (fun z => by rw [(ab_cc c x y).mpr z] at hq; cases hq))
theorem s_if {c : ClassFile.Cond} {o : Int} {x : Int32} (t u : Nat) (hf : am_find (am_code k) pc = some (.ifCond c o, len)) (ht : (pc : Int) + o = .ofNat t) (hu : pc + 3 = u) (h1 : ab_P c x.toInt 0 → aw none d k Q (t, ls, st) w) (h2 : ¬ ab_P c x.toInt 0 → aw none d k Q (u, ls, st) w) : aw none d k Q (pc, ls, .int x :: st) w := by
  subst hu
  cases hq : am_cc c x 0 with
  | true => exact aw_step hf (f1 := (t, ls, st)) (w1 := w) (by show am_if c pc o ls (.int x :: st) w = some (.inl ((t, ls, st), w)); unfold am_if; rw [ht]; simp only; rw [hq]; rfl) (h1 ((ab_cc c x 0).mp hq))
  | false => exact aw_step hf (f1 := (pc + 3, ls, st)) (w1 := w) (by show am_if c pc o ls (.int x :: st) w = some (.inl ((pc + 3, ls, st), w)); unfold am_if; rw [ht]; simp only; rw [hq]; rfl) (h2 (fun z => by rw [(ab_cc c x 0).mpr z] at hq; cases hq))
theorem s_lc {c : ClassFile.Cond} {o : Int} {x y : Int64} {len2 : Nat} (t u v : Nat) (hf : am_find (am_code k) pc = some (.lcmp, len)) (hv : pc + 1 = v) (hf2 : am_find (am_code k) v = some (.ifCond c o, len2)) (ht : (v : Int) + o = .ofNat t) (hu : v + 3 = u) (h1 : ab_P c x.toInt y.toInt → aw none d k Q (t, ls, st) w) (h2 : ¬ ab_P c x.toInt y.toInt → aw none d k Q (u, ls, st) w) : aw none d k Q (pc, ls, .long y :: .long x :: st) w := by
  subst hu
  subst hv
  refine aw_step hf (f1 := (pc + 1, ls, .int (lg_cmp x y) :: st)) (w1 := w) rfl ?_
  cases hq : am_cc c (lg_cmp x y) 0 with
  | true => exact aw_step hf2 (f1 := (t, ls, st)) (w1 := w) (by show am_if c (pc + 1) o ls (.int (lg_cmp x y) :: st) w = some (.inl ((t, ls, st), w)); unfold am_if; rw [ht]; simp only; rw [hq]; rfl) (h1 ((ab_lc c x y).mp hq))
  | false => exact aw_step hf2 (f1 := (pc + 1 + 3, ls, st)) (w1 := w) (by show am_if c (pc + 1) o ls (.int (lg_cmp x y) :: st) w = some (.inl ((pc + 1 + 3, ls, st), w)); unfold am_if; rw [ht]; simp only; rw [hq]; rfl) (h2 (fun z => by rw [(ab_lc c x y).mpr z] at hq; cases hq))
/-- division -/
theorem s_dv {ins : Instr} {f : Int32 → Int32 → Int32} {x y : Int32} (u : Nat) (hf : am_find (am_code k) pc = some (ins, len)) (hi : am_ins none (am_mi k).1 (am_mi k).2.2.1 (am_mi k).2.2.2 ins pc ls (.int y :: .int x :: st) w = am_idv f u ls (.int y :: .int x :: st) w) (hy : y.toInt ≠ 0) (h : ∀ z, z = f x y → aw none d k Q (u, ls, .int z :: st) w) : aw none d k Q (pc, ls, .int y :: .int x :: st) w := by
  refine aw_step hf (f1 := (u, ls, .int (f x y) :: st)) (w1 := w) ?_ (h _ rfl)
  rw [hi]
  unfold am_idv
  simp only
  rw [if_neg (fun e => hy (by rw [e]; rfl))]
  rfl
theorem s_dvl {ins : Instr} {f : Int64 → Int64 → Int64} {x y : Int64} (u : Nat) (hf : am_find (am_code k) pc = some (ins, len)) (hi : am_ins none (am_mi k).1 (am_mi k).2.2.1 (am_mi k).2.2.2 ins pc ls (.long y :: .long x :: st) w = am_ldv f u ls (.long y :: .long x :: st) w) (hy : y.toInt ≠ 0) (h : ∀ z, z = f x y → aw none d k Q (u, ls, .long z :: st) w) : aw none d k Q (pc, ls, .long y :: .long x :: st) w := by
  refine aw_step hf (f1 := (u, ls, .long (f x y) :: st)) (w1 := w) ?_ (h _ rfl)
  rw [hi]
  unfold am_ldv
  simp only
  rw [if_neg (fun e => hy (by rw [e]; rfl))]
  rfl
/-! fields -/
theorem s_g {idx p ci kf : Nat} {ts : List ab_F} {ft : ab_F} (hJ : ab_J T sets wr w0 w) (u : Nat) (hf : am_find (am_code k) pc = some (.getfield idx, len)) (hu : pc + 3 = u) (hfl : am_find (am_fldT (am_mi k).1) idx = some (ci, kf)) (hT : T[p]? = some (.inr (ci, ts))) (hp : Nat.blt p am_B = true) (ht : ts[kf]? = some ft) (h : ∀ v, ab_vF sets ft v → am_fv w p kf = some v → aw none d k Q (u, ls, v :: st) w) : aw none d k Q (pc, ls, .ref p :: st) w := by
  subst hu
  obtain ⟨q, w1, fs, rfl, f1, f2⟩ := hJ.1.2 _ _ hT
  obtain ⟨v, f3, f4⟩ := f2 kf ft ht
  refine aw_step hf (f1 := (pc + 3, ls, v :: st)) (w1 := w) ?_ (h v f4 ?_)
  · show am_getf (am_mi k).1 idx (pc + 3) ls (.ref p :: st) w = some (.inl ((pc + 3, ls, v :: st), w))
    unfold am_getf
    simp only
    rw [hfl]
    simp only
    rw [w1]
    simp only
    rw [show (Nat.beq ci ci && Nat.blt p am_B) = true by rw [Nat.beq_refl, hp]; rfl]
    simp only [cond_true]
    rw [f3]
    rfl
  · unfold am_fv am_fs
    rw [w1]
    exact f3
theorem s_gi {idx p ci kf : Nat} {lo hi : Int} {ts : List ab_F} (hJ : ab_J T sets wr w0 w) (u : Nat) (hf : am_find (am_code k) pc = some (.getfield idx, len)) (hu : pc + 3 = u) (hfl : am_find (am_fldT (am_mi k).1) idx = some (ci, kf)) (hT : T[p]? = some (.inr (ci, ts))) (hp : Nat.blt p am_B = true) (ht : ts[kf]? = some (0, lo, hi)) (h : ∀ x : Int32, lo ≤ x.toInt → x.toInt ≤ hi → am_fv w p kf = some (.int x) → aw none d k Q (u, ls, .int x :: st) w) : aw none d k Q (pc, ls, .ref p :: st) w := by
  refine s_g hJ u hf hu hfl hT hp ht fun v hv e => ?_
  rcases hv with ⟨-, x, rfl, b1, b2⟩ | ⟨h1, -⟩ | ⟨h1, -⟩ | ⟨h1, -⟩
  · exact h x b1 b2 e
  all_goals cases h1
theorem s_gl {idx p ci kf : Nat} {lo hi : Int} {ts : List ab_F} (hJ : ab_J T sets wr w0 w) (u : Nat) (hf : am_find (am_code k) pc = some (.getfield idx, len)) (hu : pc + 3 = u) (hfl : am_find (am_fldT (am_mi k).1) idx = some (ci, kf)) (hT : T[p]? = some (.inr (ci, ts))) (hp : Nat.blt p am_B = true) (ht : ts[kf]? = some (1, lo, hi)) (h : ∀ x : Int64, lo ≤ x.toInt → x.toInt ≤ hi → am_fv w p kf = some (.long x) → aw none d k Q (u, ls, .long x :: st) w) : aw none d k Q (pc, ls, .ref p :: st) w := by
  refine s_g hJ u hf hu hfl hT hp ht fun v hv e => ?_
  rcases hv with ⟨h1, -⟩ | ⟨-, x, rfl, b1, b2⟩ | ⟨h1, -⟩ | ⟨h1, -⟩
  · cases h1
  · exact h x b1 b2 e
  all_goals cases h1
theorem s_gr {idx p ci kf : Nat} (q : Nat) {ts : List ab_F} (hJ : ab_J T sets wr w0 w) (u : Nat) (hf : am_find (am_code k) pc = some (.getfield idx, len)) (hu : pc + 3 = u) (hfl : am_find (am_fldT (am_mi k).1) idx = some (ci, kf)) (hT : T[p]? = some (.inr (ci, ts))) (hp : Nat.blt p am_B = true) (ht : ts[kf]? = some (2, (q : Int), 0)) (h : aw none d k Q (u, ls, .ref q :: st) w) : aw none d k Q (pc, ls, .ref p :: st) w := by
  refine s_g hJ u hf hu hfl hT hp ht fun v hv e => ?_
  rcases hv with ⟨h1, -⟩ | ⟨h1, -⟩ | ⟨-, x, rfl, b1⟩ | ⟨h1, -⟩
  · cases h1
  · cases h1
  · have : x = q := Int.ofNat_inj.mp b1
    rw [this]; exact h
  · cases h1
theorem s_p {idx p ci kf : Nat} {ts : List ab_F} {ft : ab_F} {ty : FieldType} {v : Value} (hJ : ab_J T sets wr w0 w) (u : Nat) (hf : am_find (am_code k) pc = some (.putfield idx, len)) (hu : pc + 3 = u) (hfl : am_find (am_fldT (am_mi k).1) idx = some (ci, kf)) (hT : T[p]? = some (.inr (ci, ts))) (ht : ts[kf]? = some ft) (hty : (am_ft ci)[kf]? = some (ty, false)) (hwr : (wr.1.contains p || wr.2.contains (p, kf)) = true) (hfit : am_fit ty v = true) (hv : ab_vF sets ft v) (h : ∀ w1, ab_J T sets wr w0 w1 → w1 = w.set p (.inr (ci, (am_fs w p).set kf v)) → aw none d k Q (u, ls, st) w1) : aw none d k Q (pc, ls, v :: .ref p :: st) w := by
  subst hu
  obtain ⟨q, w1, fs, rfl, f1, f2⟩ := hJ.1.2 _ _ hT
  have hin : p ∈ wr.1 ∨ (p, kf) ∈ wr.2 := (Bool.or_eq_true _ _ |>.mp hwr).imp List.contains_iff_mem.mp List.contains_iff_mem.mp
  have hk : kf < fs.length := by rw [f1]; exact (List.getElem?_eq_some_iff.mp ht).1
  have e : am_fs w p = fs := by unfold am_fs; rw [w1]
  rw [e] at h
  refine aw_step hf (f1 := (pc + 3, ls, st)) (w1 := w.set p (.inr (ci, fs.set kf v))) ?_ (h _ (ab_putf_J hJ hin hT w1 ⟨_, rfl, by rw [List.length_set]; exact f1, fun j tj hj => ?_⟩) rfl)
  · show am_putf (am_mi k).1 (am_mi k).2.2.2 idx (pc + 3) ls (v :: .ref p :: st) w = some (.inl ((pc + 3, ls, st), w.set p (.inr (ci, fs.set kf v))))
    unfold am_putf
    simp only
    rw [hfl]
    simp only
    rw [w1, hty]
    simp only
    rw [show (Nat.beq ci ci && (am_fit ty v && (Nat.blt kf fs.length && (!false || ((am_mi k).2.2.2 && Nat.beq ci (am_mi k).1))))) = true by rw [Nat.beq_refl, hfit, show Nat.blt kf fs.length = true from Nat.ble_eq_true_of_le hk]; rfl]
    rfl
  · by_cases q : kf = j
    · subst q
      rw [ht] at hj
      cases hj
      exact ⟨v, List.getElem?_set_self hk, hv⟩
    · obtain ⟨v', g1, g2⟩ := f2 j tj hj
      exact ⟨v', by rw [List.getElem?_set_ne q]; exact g1, g2⟩
theorem s_pi {idx p ci kf : Nat} {ts : List ab_F} {lo hi : Int} {x : Int32} (hJ : ab_J T sets wr w0 w) (u : Nat) (hf : am_find (am_code k) pc = some (.putfield idx, len)) (hu : pc + 3 = u) (hfl : am_find (am_fldT (am_mi k).1) idx = some (ci, kf)) (hT : T[p]? = some (.inr (ci, ts))) (ht : ts[kf]? = some (0, lo, hi)) (hty : (am_ft ci)[kf]? = some (.int, false)) (hwr : (wr.1.contains p || wr.2.contains (p, kf)) = true) (h1 : lo ≤ x.toInt) (h2 : x.toInt ≤ hi) (h : ∀ w1, ab_J T sets wr w0 w1 → w1 = w.set p (.inr (ci, (am_fs w p).set kf (.int x))) → aw none d k Q (u, ls, st) w1) : aw none d k Q (pc, ls, .int x :: .ref p :: st) w := s_p hJ u hf hu hfl hT ht hty hwr rfl (Or.inl ⟨rfl, x, rfl, h1, h2⟩) h
/-! rows -/
theorem s_ia {p n : Nat} {lo hi : Int} {i : Int32} (hJ : ab_J T sets wr w0 w) (u : Nat) (hf : am_find (am_code k) pc = some (.iaload, len)) (hu : pc + 1 = u) (hT : T[p]? = some (.inl (0, n, lo, hi))) (hp : Nat.blt p am_B = true) (i1 : 0 ≤ i.toInt) (i2 : i.toInt < (n : Int)) (h : ∀ x : Int32, lo ≤ x.toInt → x.toInt ≤ hi → (am_row w p)[i.toInt.toNat]? = some x → aw none d k Q (u, ls, .int x :: st) w) : aw none d k Q (pc, ls, .int i :: .ref p :: st) w := by
  subst hu
  obtain ⟨q, w1, hq⟩ := hJ.1.2 _ _ hT
  rcases hq with ⟨-, l, rfl, f1, f2⟩ | ⟨h1, -⟩ | ⟨h1, -⟩ | h1
  · have hl : i.toInt.toNat < l.length := by omega
    refine aw_step hf (f1 := (pc + 1, ls, .int l[i.toInt.toNat] :: st)) (w1 := w) ?_ (h _ (f2 _ (List.getElem_mem hl)).1 (f2 _ (List.getElem_mem hl)).2 ?_)
    · show am_iald none (pc + 1) ls (.int i :: .ref p :: st) w = some (.inl ((pc + 1, ls, .int l[i.toInt.toNat] :: st), w))
      have e : am_ints none w p = some l := by unfold am_ints; rw [hp, w1]; rfl
      unfold am_iald
      simp only
      rw [e]
      simp only
      rw [if_neg (am_oob i1 (by rw [f1]; exact i2)), am_nat i1, List.getD_eq_getElem?_getD, List.getElem?_eq_getElem hl]
      rfl
    · unfold am_row
      rw [w1]
      exact List.getElem?_eq_getElem hl
  all_goals cases h1
theorem s_la {p n : Nat} {lo hi : Int} {i : Int32} (hJ : ab_J T sets wr w0 w) (u : Nat) (hf : am_find (am_code k) pc = some (.laload, len)) (hu : pc + 1 = u) (hT : T[p]? = some (.inl (2, n, lo, hi))) (i1 : 0 ≤ i.toInt) (i2 : i.toInt < (n : Int)) (h : ∀ x : Int64, lo ≤ x.toInt → x.toInt ≤ hi → (am_rowl w p)[i.toInt.toNat]? = some x → aw none d k Q (u, ls, .long x :: st) w) : aw none d k Q (pc, ls, .int i :: .ref p :: st) w := by
  subst hu
  obtain ⟨q, w1, hq⟩ := hJ.1.2 _ _ hT
  rcases hq with ⟨h1, -⟩ | ⟨h1, -⟩ | ⟨-, l, rfl, f1, f2⟩ | h1
  · cases h1
  · cases h1
  · have hl : i.toInt.toNat < l.length := by omega
    refine aw_step hf (f1 := (pc + 1, ls, .long l[i.toInt.toNat] :: st)) (w1 := w) ?_ (h _ (f2 _ (List.getElem_mem hl)).1 (f2 _ (List.getElem_mem hl)).2 ?_)
    · show am_lald (pc + 1) ls (.int i :: .ref p :: st) w = some (.inl ((pc + 1, ls, .long l[i.toInt.toNat] :: st), w))
      unfold am_lald
      simp only
      rw [w1]
      simp only
      rw [if_neg (am_oob i1 (by rw [f1]; exact i2)), am_nat i1, List.getD_eq_getElem?_getD, List.getElem?_eq_getElem hl]
      rfl
    · unfold am_rowl
      rw [w1]
      exact List.getElem?_eq_getElem hl
  · cases h1
theorem am_set_all {α : Type} {P : α → Prop} {l : List α} {j : Nat} {x : α} (h : ∀ y ∈ l, P y) (hx : P x) : ∀ y ∈ l.set j x, P y := by
  intro y hy
  rcases List.mem_or_eq_of_mem_set hy with g | g
  · exact h y g
  · rw [g]; exact hx
theorem s_is {p n : Nat} {lo hi : Int} {i x : Int32} (hJ : ab_J T sets wr w0 w) (u : Nat) (hf : am_find (am_code k) pc = some (.iastore, len)) (hu : pc + 1 = u) (hT : T[p]? = some (.inl (0, n, lo, hi))) (hwr : wr.1.contains p = true) (i1 : 0 ≤ i.toInt) (i2 : i.toInt < (n : Int)) (x1 : lo ≤ x.toInt) (x2 : x.toInt ≤ hi) (h : ∀ w1, ab_J T sets wr w0 w1 → w1 = w.set p (.inl (.inl (0, (am_row w p).set i.toInt.toNat x))) → aw none d k Q (u, ls, st) w1) : aw none d k Q (pc, ls, .int x :: .int i :: .ref p :: st) w := by
  subst hu
  obtain ⟨q, w1, hq⟩ := hJ.1.2 _ _ hT
  rcases hq with ⟨-, l, rfl, f1, f2⟩ | ⟨h1, -⟩ | ⟨h1, -⟩ | h1
  · have e : am_row w p = l := by unfold am_row; rw [w1]
    rw [e] at h
    refine aw_step hf (f1 := (pc + 1, ls, st)) (w1 := w.set p (.inl (.inl (0, l.set i.toInt.toNat x)))) ?_ (h _ (ab_put hJ (List.contains_iff_mem.mp hwr) hT (Or.inl ⟨rfl, _, rfl, by rw [List.length_set]; exact f1, am_set_all f2 ⟨x1, x2⟩⟩)) rfl)
    show am_iast (pc + 1) ls (.int x :: .int i :: .ref p :: st) w = some (.inl ((pc + 1, ls, st), w.set p (.inl (.inl (0, l.set i.toInt.toNat x)))))
    unfold am_iast
    simp only
    rw [w1]
    simp only
    rw [if_neg (am_oob i1 (by rw [f1]; exact i2)), am_nat i1]
    rfl
  all_goals cases h1
theorem s_ls {p n : Nat} {lo hi : Int} {i : Int32} {x : Int64} (hJ : ab_J T sets wr w0 w) (u : Nat) (hf : am_find (am_code k) pc = some (.lastore, len)) (hu : pc + 1 = u) (hT : T[p]? = some (.inl (2, n, lo, hi))) (hwr : wr.1.contains p = true) (i1 : 0 ≤ i.toInt) (i2 : i.toInt < (n : Int)) (x1 : lo ≤ x.toInt) (x2 : x.toInt ≤ hi) (h : ∀ w1, ab_J T sets wr w0 w1 → w1 = w.set p (.inl (.inr (.inl ((am_rowl w p).set i.toInt.toNat x)))) → aw none d k Q (u, ls, st) w1) : aw none d k Q (pc, ls, .long x :: .int i :: .ref p :: st) w := by
  subst hu
  obtain ⟨q, w1, hq⟩ := hJ.1.2 _ _ hT
  rcases hq with ⟨h1, -⟩ | ⟨h1, -⟩ | ⟨-, l, rfl, f1, f2⟩ | h1
  · cases h1
  · cases h1
  · have e : am_rowl w p = l := by unfold am_rowl; rw [w1]
    rw [e] at h
    refine aw_step hf (f1 := (pc + 1, ls, st)) (w1 := w.set p (.inl (.inr (.inl (l.set i.toInt.toNat x))))) ?_ (h _ (ab_put hJ (List.contains_iff_mem.mp hwr) hT (Or.inr (Or.inr (Or.inl ⟨rfl, _, rfl, by rw [List.length_set]; exact f1, am_set_all f2 ⟨x1, x2⟩⟩)))) rfl)
    show am_last (pc + 1) ls (.long x :: .int i :: .ref p :: st) w = some (.inl ((pc + 1, ls, st), w.set p (.inl (.inr (.inl (l.set i.toInt.toNat x))))))
    unfold am_last
    simp only
    rw [w1]
    simp only
    rw [if_neg (am_oob i1 (by rw [f1]; exact i2)), am_nat i1]
    rfl
  · cases h1
/-! calls -/
theorem s_cs {idx z n : Nat} {as : List Value} {st1 : List Value} {Q1 : Option Value → am_W → Prop} {kd : Nat} (u : Nat) (hf : am_find (am_code k) pc = some (.invokestatic idx, len)) (hu : pc + 3 = u) (hz : am_find (am_invT (am_mi k).1) idx = some (kd, z, n)) (hk : (Nat.blt kd 6 && Nat.beq (kd % 3) 1) = true) (hst : st.take n = as.reverse) (hst1 : st.drop n = st1) (hln : n ≤ st.length) (hcat : (st1.map fun v => v.category).sum ≤ 8) (ha : (am_args as).length ≤ (am_mi z).2.1) (hc : aw none d z Q1 (0, am_entry z as, []) w) (h : ∀ r w1, Q1 r w1 → w1.length = w.length ∧ aw none (d + 1) k Q (u, ls, r.toList ++ st1) w1) : aw none (d + 1) k Q (pc, ls, st) w := by
  subst hu
  obtain ⟨k1, k2⟩ := am_and hk
  refine aw_call hf (z := z) (pc1 := pc + 3) (as := as) (ls1 := ls) (st1 := st1) ?_ ha hc h
  show am_call 1 (am_mi k).1 idx (pc + 3) ls st w = _
  unfold am_call
  rw [hz]
  simp only
  rw [k1, k2, hst, hst1]
  simp only [cond_true, Nat.beq_refl]
  rw [if_neg (by omega), List.reverse_reverse]
theorem s_cv {idx z n p ci : Nat} {as : List Value} {st1 : List Value} {ts : List ab_F} {Q1 : Option Value → am_W → Prop} {kd : Nat} (hJ : ab_J T sets wr w0 w) (u : Nat) (hf : am_find (am_code k) pc = some (.invokevirtual idx, len)) (hu : pc + 3 = u) (hz : am_find (am_invT (am_mi k).1) idx = some (kd, z, n)) (hk : (Nat.blt kd 6 && Nat.beq (kd % 3) 0) = true) (hT : T[p]? = some (.inr (ci, ts))) (hci : Nat.beq ci (am_mi z).1 = true) (hst : st.take n = as.reverse) (hst1 : st.drop n = .ref p :: st1) (hcat : (st1.map fun v => v.category).sum ≤ 8) (ha : (am_args (.ref p :: as)).length ≤ (am_mi z).2.1) (hc : aw none d z Q1 (0, am_entry z (.ref p :: as), []) w) (h : ∀ r w1, Q1 r w1 → w1.length = w.length ∧ aw none (d + 1) k Q (u, ls, r.toList ++ st1) w1) : aw none (d + 1) k Q (pc, ls, st) w := by
  subst hu
  obtain ⟨k1, k2⟩ := am_and hk
  obtain ⟨q, w1, fs, rfl, f1, f2⟩ := hJ.1.2 _ _ hT
  refine aw_call hf (z := z) (pc1 := pc + 3) (as := .ref p :: as) (ls1 := ls) (st1 := st1) ?_ ha hc h
  show am_call 0 (am_mi k).1 idx (pc + 3) ls st w = _
  unfold am_call
  rw [hz]
  simp only
  rw [k1, k2, hst, hst1]
  simp only [cond_true]
  rw [show Nat.beq 0 1 = false from rfl]
  simp only [cond_false]
  rw [if_neg (by omega), w1]
  simp only
  rw [hci, List.reverse_reverse]
  rfl
theorem am_len2 {w1 : am_W} (hJ : ab_J T sets wr w0 w) (h : ab_J T sets wr w w1) : w1.length = w.length := by rw [h.1.1, hJ.1.1]
end ST
/-! numbers -/
theorem n_add {x y : Int32} (h1 : -2147483648 ≤ x.toInt + y.toInt) (h2 : x.toInt + y.toInt ≤ 2147483647) : (x + y).toInt = x.toInt + y.toInt := by rw [Int32.toInt_add]; exact ab_bmod h1 h2
theorem n_sub {x y : Int32} (h1 : -2147483648 ≤ x.toInt - y.toInt) (h2 : x.toInt - y.toInt ≤ 2147483647) : (x - y).toInt = x.toInt - y.toInt := by rw [Int32.toInt_sub]; exact ab_bmod h1 h2
theorem n_mul {x y : Int32} (h1 : -2147483648 ≤ x.toInt * y.toInt) (h2 : x.toInt * y.toInt ≤ 2147483647) : (x * y).toInt = x.toInt * y.toInt := by rw [Int32.toInt_mul]; exact ab_bmod h1 h2
theorem n_0 {x : Int32} (h : x.toInt = 0) : x = 0 := Int32.toInt_inj.mp (by rw [h]; rfl)
theorem n_1 {x : Int32} (h : x.toInt = 1) : x = 1 := Int32.toInt_inj.mp (by rw [h]; rfl)
