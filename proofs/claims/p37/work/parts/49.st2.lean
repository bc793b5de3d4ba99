/-! ===== more steps: a switch, rows of booleans ===== -/
section ST2
variable {d k : Nat} {Q : Option Value → am_W → Prop} {pc : Nat} {ls : am_L} {st : List Value} {w w0 : am_W} {len : Nat} {T : List ab_C} {sets : List (List Nat)} {wr : ab_wT}
theorem s_swd {df lo hi : Int} {offs : Array Int} {x : Int32} (t : Nat) (hf : am_find (am_code k) pc = some (.tableswitch df lo hi offs, len)) (ht : (pc : Int) + df = .ofNat t) (hx : x.toInt < lo ∨ hi < x.toInt) (h : aw none d k Q (t, ls, st) w) : aw none d k Q (pc, ls, .int x :: st) w := by
  refine aw_step hf (f1 := (t, ls, st)) (w1 := w) ?_ h
  show am_sw df lo hi offs pc ls (.int x :: st) w = _
  unfold am_sw
  simp only
  rw [if_pos hx]
  unfold am_jmp
  rw [ht]
  rfl
theorem s_swj {df lo hi o : Int} {offs : Array Int} {x : Int32} {j : Nat} (t : Nat) (hf : am_find (am_code k) pc = some (.tableswitch df lo hi offs, len)) (h1 : lo ≤ x.toInt) (h2 : x.toInt ≤ hi) (hx : x.toInt = lo + j) (ho : offs.toList[j]? = some o) (ht : (pc : Int) + o = .ofNat t) (h : aw none d k Q (t, ls, st) w) : aw none d k Q (pc, ls, .int x :: st) w := by
  refine aw_step hf (f1 := (t, ls, st)) (w1 := w) ?_ h
  show am_sw df lo hi offs pc ls (.int x :: st) w = _
  unfold am_sw
  simp only
  rw [if_neg (by omega), show (x.toInt - lo).toNat = j by omega, ho]
  simp only
  unfold am_jmp
  rw [ht]
  rfl
theorem s_ba {p n : Nat} {lo hi : Int} {i : Int32} (hJ : ab_J T sets wr w0 w) (u : Nat) (hf : am_find (am_code k) pc = some (.baload, len)) (hu : pc + 1 = u) (hT : T[p]? = some (.inl (1, n, lo, hi))) (i1 : 0 ≤ i.toInt) (i2 : i.toInt < (n : Int)) (h : ∀ x : Int32, lo ≤ x.toInt → x.toInt ≤ hi → (am_row w p)[i.toInt.toNat]? = some x → aw none d k Q (u, ls, .int x :: st) w) : aw none d k Q (pc, ls, .int i :: .ref p :: st) w := by
  subst hu
  obtain ⟨q, w1, hq⟩ := hJ.1.2 _ _ hT
  rcases hq with ⟨h1, -⟩ | ⟨-, -, -, l, rfl, f1, f2⟩ | ⟨h1, -⟩ | h1
  · cases h1
  · have hl : i.toInt.toNat < l.length := by omega
    refine aw_step hf (f1 := (pc + 1, ls, .int l[i.toInt.toNat] :: st)) (w1 := w) ?_ (h _ (f2 _ (List.getElem_mem hl)).1 (f2 _ (List.getElem_mem hl)).2 ?_)
    · show am_zald (pc + 1) ls (.int i :: .ref p :: st) w = some (.inl ((pc + 1, ls, .int l[i.toInt.toNat] :: st), w))
      unfold am_zald
      simp only
      rw [w1]
      simp only
      rw [if_neg (am_oob i1 (by rw [f1]; exact i2)), am_nat i1, List.getD_eq_getElem?_getD, List.getElem?_eq_getElem hl]
      rfl
    · unfold am_row
      rw [w1]
      exact List.getElem?_eq_getElem hl
  · cases h1
  · cases h1
theorem s_bs {p n : Nat} {lo hi : Int} {i x : Int32} (hJ : ab_J T sets wr w0 w) (u : Nat) (hf : am_find (am_code k) pc = some (.bastore, len)) (hu : pc + 1 = u) (hT : T[p]? = some (.inl (1, n, lo, hi))) (hwr : wr.1.contains p = true) (i1 : 0 ≤ i.toInt) (i2 : i.toInt < (n : Int)) (x1 : x.toInt = 0 ∨ x.toInt = 1) (h : ∀ w1, ab_J T sets wr w0 w1 → w1 = w.set p (.inl (.inl (1, (am_row w p).set i.toInt.toNat x))) → aw none d k Q (u, ls, st) w1) : aw none d k Q (pc, ls, .int x :: .int i :: .ref p :: st) w := by
  subst hu
  obtain ⟨q, w1, hq⟩ := hJ.1.2 _ _ hT
  rcases hq with ⟨h1, -⟩ | ⟨-, lo1, hi1, l, rfl, f1, f2⟩ | ⟨h1, -⟩ | h1
  · cases h1
  · have e : am_row w p = l := by unfold am_row; rw [w1]
    rw [e] at h
    have ex : x &&& 1 = x := by
      rcases x1 with q | q
      · rw [n_0 q]; rfl
      · rw [n_1 q]; rfl
    refine aw_step hf (f1 := (pc + 1, ls, st)) (w1 := w.set p (.inl (.inl (1, l.set i.toInt.toNat x)))) ?_ (h _ (ab_put hJ (List.contains_iff_mem.mp hwr) hT (Or.inr (Or.inl ⟨rfl, lo1, hi1, _, rfl, by rw [List.length_set]; exact f1, am_set_all f2 ⟨by omega, by omega⟩⟩))) rfl)
    show am_zast (pc + 1) ls (.int x :: .int i :: .ref p :: st) w = some (.inl ((pc + 1, ls, st), w.set p (.inl (.inl (1, l.set i.toInt.toNat x)))))
    unfold am_zast
    simp only
    rw [w1]
    simp only
    rw [if_neg (am_oob i1 (by rw [f1]; exact i2)), am_nat i1, ex]
    rfl
  · cases h1
  · cases h1
theorem rZ_len {p n : Nat} {lo hi : Int} (I : ab_inv T sets w) (hT : T[p]? = some (.inl (1, n, lo, hi))) : p < w.length ∧ (am_row w p).length = n ∧ ∀ x ∈ am_row w p, lo ≤ x.toInt ∧ x.toInt ≤ hi := by
  obtain ⟨q, w1, hq⟩ := I.2 _ _ hT
  rcases hq with ⟨h1, -⟩ | ⟨-, -, -, l, rfl, f1, f2⟩ | ⟨h1, -⟩ | h1
  · cases h1
  · refine ⟨(List.getElem?_eq_some_iff.mp w1).1, ?_⟩
    unfold am_row
    rw [w1]
    exact ⟨f1, f2⟩
  all_goals cases h1
theorem rZ_st {w2 : am_W} {p n j : Nat} {x : Int32} {lo hi : Int} (I : ab_inv T sets w) (hT : T[p]? = some (.inl (1, n, lo, hi))) (hj : j < n) (e : w2 = w.set p (.inl (.inl (1, (am_row w p).set j x)))) : only [p] w w2 ∧ rI w2 p j = x.toInt ∧ ∀ i, i ≠ j → rI w2 p i = rI w p i := by
  obtain ⟨h0, h1, -⟩ := rZ_len I hT
  subst e
  refine ⟨only_set, ?_, fun i hi => ?_⟩
  · unfold rI
    rw [am_row_eq h0, List.getElem?_set_self (by omega)]
  · unfold rI
    rw [am_row_eq h0, List.getElem?_set_ne (fun e => hi e.symm)]
theorem s_pz {idx p ci kf : Nat} {ts : List ab_F} {lo hi : Int} {x : Int32} (hJ : ab_J T sets wr w0 w) (u : Nat) (hf : am_find (am_code k) pc = some (.putfield idx, len)) (hu : pc + 3 = u) (hfl : am_find (am_fldT (am_mi k).1) idx = some (ci, kf)) (hT : T[p]? = some (.inr (ci, ts))) (ht : ts[kf]? = some (0, lo, hi)) (hty : (am_ft ci)[kf]? = some (.boolean, false)) (hwr : (wr.1.contains p || wr.2.contains (p, kf)) = true) (h1 : lo ≤ x.toInt ∧ x.toInt ≤ hi) (h2 : x.toInt = 0 ∨ x.toInt = 1) (h : ∀ w1, ab_J T sets wr w0 w1 → w1 = w.set p (.inr (ci, (am_fs w p).set kf (.int x))) → aw none d k Q (u, ls, st) w1) : aw none d k Q (pc, ls, .int x :: .ref p :: st) w := s_p hJ u hf hu hfl hT ht hty hwr (by
  rcases h2 with q | q
  · rw [n_0 q]; rfl
  · rw [n_1 q]; rfl) (Or.inl ⟨rfl, x, rfl, h1.1, h1.2⟩) h
theorem s_aa {p q : Nat} {i : Int32} {l : List (Option Nat)} (u : Nat) (hf : am_find (am_code k) pc = some (.aaload, len)) (hu : pc + 1 = u) (hw : w[p]? = some (.inl (.inr (.inr l)))) (i1 : 0 ≤ i.toInt) (hl : l[i.toInt.toNat]? = some (some q)) (h : aw none d k Q (u, ls, .ref q :: st) w) : aw none d k Q (pc, ls, .int i :: .ref p :: st) w := by
  subst hu
  refine aw_step hf (f1 := (pc + 1, ls, .ref q :: st)) (w1 := w) ?_ h
  have hn := (List.getElem?_eq_some_iff.mp hl).1
  show am_aald (pc + 1) ls (.int i :: .ref p :: st) w = _
  unfold am_aald
  simp only
  rw [hw]
  simp only
  rw [if_neg (am_oob i1 (by omega)), am_nat i1, List.getD_eq_getElem?_getD, hl]
  rfl
end ST2
