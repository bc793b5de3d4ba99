/-! ===== pictures of the scenes: class (three scenes), model ===== -/
noncomputable def upv (V : Nat → Int) (k : Nat) (x : Int) : Nat → Int := fun j => if j = k then x else V j
theorem upv_s {V : Nat → Int} {k : Nat} {x : Int} : upv V k x k = x := if_pos rfl
theorem upv_n {V : Nat → Int} {k j : Nat} {x : Int} (h : j ≠ k) : upv V k x j = V j := if_neg h
noncomputable def ck (j : Nat) : Nat := [0, 1, 2, 6, 0, 0, 3, 4].getD j 0
noncomputable def rr (j : Nat) : Nat := [0, 0, 0, 0, 6, 6, 0, 0, 4, 5, 7, 8, 4, 5, 7, 8, 4, 5, 7, 8, 4, 5, 7, 8, 9, 10, 9, 10, 9, 10, 9, 10, 9, 10, 9, 10, 9, 10, 9, 10].getD j 1
noncomputable def ri (j : Nat) : Nat := [0, 0, 0, 0, 0, 1, 0, 0, 0, 0, 0, 0, 1, 1, 1, 1, 2, 2, 2, 2, 3, 3, 3, 3, 0, 0, 1, 1, 2, 2, 3, 3, 4, 4, 5, 5, 6, 6, 7, 7].getD j (j - 40)
/-- a scene of the class, in the order of fld -/
noncomputable def sc (w : am_W) (p j : Nat) : Int := if rr j = 0 then (if j = 3 then fLi w p 6 else fI w p (ck j)) else rI w (p + rr j) (ri j)
noncomputable def szV (V : Nat → Int) : Int := V 0 * V 1
noncomputable def RCs (w : am_W) (p : Nat) (V : Nat → Int) : Prop := (∀ j : Nat, j < 40 → sc w p j = V j) ∧ (∀ c : Nat, (c : Int) < szV V → rI w (p + 1) c = V (40 + c) ∧ rI w (p + 2) c = (c : Int) / V 1 ∧ rI w (p + 3) c = (c : Int) % V 1) ∧ ∀ c : Nat, bt (fL w p 5) c = 1 ↔ (c : Int) < szV V ∧ V (40 + c) ≠ 126
noncomputable def RMs (w : am_W) (V : Nat → Int) : Prop := ∀ j : Nat, j < 76 → fld w j = V j
theorem szV_n {V : Nat → Int} {k : Nat} {x : Int} (h : 2 ≤ k) : szV (upv V k x) = szV V := by unfold szV; rw [upv_n (by omega), upv_n (by omega)]
noncomputable def vx (r i : Nat) : Nat := if r = 6 then 4 + i else if r < 9 then 8 + 4 * i + (if r < 6 then r - 4 else r - 5) else 24 + 2 * i + (r - 9)
noncomputable def vb (r : Nat) : Nat := if r = 6 then 2 else if r < 9 then 4 else 8
theorem vx_okD : ∀ r, r < 11 → ∀ i, i < 8 → ¬ (4 ≤ r ∧ i < vb r) ∨ (rr (vx r i) = r ∧ ri (vx r i) = i ∧ 4 ≤ vx r i ∧ vx r i < 40 ∧ vx r i ≠ 6 ∧ vx r i ≠ 7) := by decide +kernel
theorem vx_ok (r : Nat) (h : r < 11) (i : Nat) (h8 : i < 8) (h4 : 4 ≤ r) (hi : i < vb r) : rr (vx r i) = r ∧ ri (vx r i) = i ∧ 4 ≤ vx r i ∧ vx r i < 40 := by
  rcases vx_okD r h i h8 with q | q
  · exact absurd ⟨h4, hi⟩ q
  · exact ⟨q.1, q.2.1, q.2.2.1, q.2.2.2.1⟩
theorem vx_67 (r : Nat) (h : r < 11) (i : Nat) (h8 : i < 8) (h4 : 4 ≤ r) (hi : i < vb r) : vx r i ≠ 6 ∧ vx r i ≠ 7 := by
  rcases vx_okD r h i h8 with q | q
  · exact absurd ⟨h4, hi⟩ q
  · exact q.2.2.2.2
theorem vx_inD : ∀ j, j < 40 → ¬ (4 ≤ rr j) ∨ (j = vx (rr j) (ri j) ∧ ri j < vb (rr j)) := by decide +kernel
theorem vx_in (j : Nat) (hj : j < 40) (r : Nat) (_ : r < 11) (i : Nat) (_ : i < 8) (h4 : 4 ≤ r) (e1 : rr j = r) (e2 : ri j = i) : j = vx r i := by
  subst e1
  subst e2
  rcases vx_inD j hj with q | q
  · exact absurd h4 q
  · exact q.1
theorem ri_8 : ∀ j, j < 40 → ri j < 8 := by decide +kernel
theorem rr_11 : ∀ j, j < 40 → rr j < 11 ∧ (rr j = 0 ∨ 4 ≤ rr j) := by decide +kernel
theorem ck_2D : ∀ j, j < 40 → (¬ rr j = 0 ∨ j = 3) ∨ ((j = 2 ∨ ck j ≠ 2) ∧ (j = 6 ∨ ck j ≠ 3) ∧ (j = 7 ∨ ck j ≠ 4) ∧ ck j ≠ 6 ∧ ck j ≠ 5 ∧ (j = 0 ∨ j = 1 ∨ j = 2 ∨ j = 6 ∨ j = 7)) := by decide +kernel
theorem ck_2 (j : Nat) (hj : j < 40) (h0 : rr j = 0) (h3 : j ≠ 3) : (j ≠ 2 → ck j ≠ 2) ∧ (j ≠ 6 → ck j ≠ 3) ∧ (j ≠ 7 → ck j ≠ 4) ∧ ck j ≠ 6 ∧ ck j ≠ 5 := by
  rcases ck_2D j hj with q | q
  · rcases q with q | q
    · exact absurd h0 q
    · exact absurd q h3
  · obtain ⟨a, b, c, d, e, -⟩ := q
    exact ⟨fun z => a.resolve_left z, fun z => b.resolve_left z, fun z => c.resolve_left z, d, e⟩
theorem ri_c (c : Nat) : rr (40 + c) = 1 ∧ ri (40 + c) = c := by
  constructor
  · unfold rr
    rw [List.getD_eq_getElem?_getD, List.getElem?_eq_none (by show 40 ≤ 40 + c; omega)]
    rfl
  · unfold ri
    rw [List.getD_eq_getElem?_getD, List.getElem?_eq_none (by show 40 ≤ 40 + c; omega)]
    show 40 + c - 40 = c
    omega
theorem sc_c {w : am_W} {p c : Nat} : sc w p (40 + c) = rI w (p + 1) c := by
  unfold sc
  rw [(ri_c c).1, (ri_c c).2, if_neg (by decide)]
section RCS
variable {w w1 : am_W} {p : Nat} {V : Nat → Int}
theorem RCs.put {q kf : Nat} {x : Int32} (R : RCs w p V) (hq : (q = 2 ∧ kf = 2) ∨ (q = 6 ∧ kf = 3) ∨ (q = 7 ∧ kf = 4)) (f : only [p] w w1 ∧ am_fv w1 p kf = some (.int x) ∧ ∀ k, k ≠ kf → am_fv w1 p k = am_fv w p k) : RCs w1 p (upv V q x.toInt) := by
  obtain ⟨O, f1, f2⟩ := f
  have rw_ : ∀ r i, r ≠ 0 → rI w1 (p + r) i = rI w (p + r) i := fun r i h => O.rIe (by simp only [List.mem_singleton]; omega)
  have hs : szV (upv V q x.toInt) = szV V := szV_n (by omega)
  have h1 : upv V q x.toInt 1 = V 1 := upv_n (by omega)
  refine ⟨fun j hj => ?_, fun c hc => ?_, fun c => ?_⟩
  · by_cases e : j = q
    · subst e
      rw [upv_s]
      rcases hq with ⟨rfl, rfl⟩ | ⟨rfl, rfl⟩ | ⟨rfl, rfl⟩
      · exact (fI_of f1 : fI w1 p 2 = _)
      · exact (fI_of f1 : fI w1 p 3 = _)
      · exact (fI_of f1 : fI w1 p 4 = _)
    · rw [upv_n e, ← R.1 j hj]
      unfold sc
      by_cases a : rr j = 0
      · rw [if_pos a, if_pos a]
        by_cases b : j = 3
        · rw [if_pos b, if_pos b]; exact fLi_eq (f2 6 (by omega))
        · rw [if_neg b, if_neg b]
          have k := ck_2 j hj a b
          exact fI_eq (f2 _ (by
            rcases hq with ⟨rfl, rfl⟩ | ⟨rfl, rfl⟩ | ⟨rfl, rfl⟩
            · exact k.1 e
            · exact k.2.1 e
            · exact k.2.2.1 e))
      · rw [if_neg a, if_neg a]; exact rw_ _ _ a
  · rw [hs] at hc
    rw [h1, upv_n (by omega), rw_ 1 _ (by decide), rw_ 2 _ (by decide), rw_ 3 _ (by decide)]
    exact R.2.1 c hc
  · rw [hs, upv_n (by omega), show fL w1 p 5 = fL w p 5 from fL_eq (f2 5 (by omega))]
    exact R.2.2 c
theorem RCs.putl {x : Int64} (R : RCs w p V) (f : only [p] w w1 ∧ am_fv w1 p 6 = some (.long x) ∧ ∀ k, k ≠ 6 → am_fv w1 p k = am_fv w p k) : RCs w1 p (upv V 3 x.toInt) := by
  obtain ⟨O, f1, f2⟩ := f
  have rw_ : ∀ r i, r ≠ 0 → rI w1 (p + r) i = rI w (p + r) i := fun r i h => O.rIe (by simp only [List.mem_singleton]; omega)
  have hs : szV (upv V 3 x.toInt) = szV V := szV_n (by omega)
  have h1 : upv V 3 x.toInt 1 = V 1 := upv_n (by omega)
  refine ⟨fun j hj => ?_, fun c hc => ?_, fun c => ?_⟩
  · by_cases e : j = 3
    · subst e
      rw [upv_s]
      exact (fLi_of f1 : fLi w1 p 6 = _)
    · rw [upv_n e, ← R.1 j hj]
      unfold sc
      by_cases a : rr j = 0
      · rw [if_pos a, if_pos a, if_neg e, if_neg e]
        exact fI_eq (f2 _ (ck_2 j hj a e).2.2.2.1)
      · rw [if_neg a, if_neg a]; exact rw_ _ _ a
  · rw [hs] at hc
    rw [h1, upv_n (by omega), rw_ 1 _ (by decide), rw_ 2 _ (by decide), rw_ 3 _ (by decide)]
    exact R.2.1 c hc
  · rw [hs, upv_n (by omega), show fL w1 p 5 = fL w p 5 from fL_eq (f2 5 (by omega))]
    exact R.2.2 c
theorem RCs.row {r i : Nat} {x : Int} (R : RCs w p V) (h4 : 4 ≤ r) (h11 : r < 11) (h8 : i < 8) (hi : i < vb r) (f : only [p + r] w w1 ∧ rI w1 (p + r) i = x ∧ ∀ k, k ≠ i → rI w1 (p + r) k = rI w (p + r) k) : RCs w1 p (upv V (vx r i) x) := by
  obtain ⟨O, f1, f2⟩ := f
  obtain ⟨v1, v2, v3, v4⟩ := vx_ok r h11 i h8 h4 hi
  have p0 : p ∉ [p + r] := by simp only [List.mem_singleton]; omega
  have rw_ : ∀ r' i', ¬ (r' = r ∧ i' = i) → rI w1 (p + r') i' = rI w (p + r') i' := by
    intro r' i' z
    by_cases e : r' = r
    · subst e; exact f2 i' (fun y => z ⟨rfl, y⟩)
    · exact O.rIe (by simp only [List.mem_singleton]; omega)
  have hs : szV (upv V (vx r i) x) = szV V := szV_n (by omega)
  have h1 : upv V (vx r i) x 1 = V 1 := upv_n (by omega)
  refine ⟨fun j hj => ?_, fun c hc => ?_, fun c => ?_⟩
  · by_cases e : j = vx r i
    · subst e
      rw [upv_s]
      unfold sc
      rw [v1, v2, if_neg (by omega)]
      exact f1
    · rw [upv_n e, ← R.1 j hj]
      unfold sc
      by_cases a : rr j = 0
      · rw [if_pos a, if_pos a, O.fLie p0, O.fIe p0]
      · rw [if_neg a, if_neg a]
        exact rw_ _ _ (fun z => e (vx_in j hj r h11 i h8 h4 z.1 z.2))
  · rw [hs] at hc
    rw [h1, upv_n (by omega), rw_ 1 _ (by omega), rw_ 2 _ (by omega), rw_ 3 _ (by omega)]
    exact R.2.1 c hc
  · rw [hs, upv_n (by omega), O.fLe p0]
    exact R.2.2 c
/-- other cells -/
theorem RCs.of {ps : List Nat} (R : RCs w p V) (O : only ps w w1) (h : ∀ r, r < 11 → p + r ∉ ps) : RCs w1 p V := by
  have p0 : p ∉ ps := h 0 (by decide)
  refine ⟨fun j hj => ?_, fun c hc => ?_, fun c => ?_⟩
  · rw [← R.1 j hj]
    unfold sc
    rw [O.fLie p0, O.fIe p0, O.rIe (h _ (rr_11 j hj).1)]
  · rw [O.rIe (h 1 (by decide)), O.rIe (h 2 (by decide)), O.rIe (h 3 (by decide))]
    exact R.2.1 c hc
  · rw [O.fLe p0]; exact R.2.2 c
/-! the model's -/
theorem RMs.put {q : Nat} {x : Int32} (R : RMs w V) (hq : q < 8) (h3 : q ≠ 3) (f : only [65] w w1 ∧ am_fv w1 65 (fk q) = some (.int x) ∧ ∀ k, k ≠ fk q → am_fv w1 65 k = am_fv w 65 k) : RMs w1 (upv V q x.toInt) := by
  intro j hj
  by_cases e : j = q
  · subst e
    rw [upv_s]
    unfold fld
    rw [if_pos hq, if_neg h3]
    exact fI_of f.2.1
  · rw [upv_n e, ← R j hj]
    exact fld_put hq f.1 f.2.2 e
theorem RMs.putl {x : Int64} (R : RMs w V) (f : only [65] w w1 ∧ am_fv w1 65 4 = some (.long x) ∧ ∀ k, k ≠ 4 → am_fv w1 65 k = am_fv w 65 k) : RMs w1 (upv V 3 x.toInt) := by
  intro j hj
  by_cases e : j = 3
  · subst e
    rw [upv_s]
    exact (fLi_of f.2.1 : fLi w1 65 4 = _)
  · rw [upv_n e, ← R j hj]
    exact fld_put (q := 3) (by decide) f.1 f.2.2 e
theorem RMs.rowa {c i : Nat} {x : Int} (R : RMs w V) (hc : c < 4) (hi : i < 4) (f : only [67 + c] w w1 ∧ rI w1 (67 + c) i = x ∧ ∀ k, k ≠ i → rI w1 (67 + c) k = rI w (67 + c) k) : RMs w1 (upv V (8 + 4 * i + c) x) := by
  intro j hj
  by_cases e : j = 8 + 4 * i + c
  · subst e
    rw [upv_s, fld_a hi hc]
    exact f.2.1
  · rw [upv_n e, ← R j hj]
    exact fld_row f.1 (by omega) f.2.2 (by omega) (by omega) (by omega)
theorem RMs.rowb {c i : Nat} {x : Int} (R : RMs w V) (hc : c < 2) (hi : i < 8) (f : only [71 + c] w w1 ∧ rI w1 (71 + c) i = x ∧ ∀ k, k ≠ i → rI w1 (71 + c) k = rI w (71 + c) k) : RMs w1 (upv V (24 + 2 * i + c) x) := by
  intro j hj
  by_cases e : j = 24 + 2 * i + c
  · subst e
    rw [upv_s, fld_b hi hc]
    exact f.2.1
  · rw [upv_n e, ← R j hj]
    exact fld_row f.1 (by omega) f.2.2 (by omega) (by omega) (by omega)
theorem RMs.rowc {i : Nat} {x : Int} (R : RMs w V) (hi : i < 36) (f : only [66] w w1 ∧ rI w1 66 i = x ∧ ∀ k, k ≠ i → rI w1 66 k = rI w 66 k) : RMs w1 (upv V (40 + i) x) := by
  intro j hj
  by_cases e : j = 40 + i
  · subst e
    rw [upv_s, fld_c hi]
    exact f.2.1
  · rw [upv_n e, ← R j hj]
    exact fld_row f.1 (by omega) f.2.2 (by omega) (by omega) (by omega)
theorem fld_e (h1 : ∀ k, k ≠ 16 → k ≠ 20 → k ≠ 21 → k ≠ 22 → k ≠ 23 → k ≠ 24 → k ≠ 28 → k ≠ 38 → k ≠ 39 → am_fv w1 65 k = am_fv w 65 k) (h2 : ∀ q i, 66 ≤ q → q ≤ 72 → rI w1 q i = rI w q i) (j : Nat) : fld w1 j = fld w j := by
  unfold fld
  by_cases a : j < 8
  · rw [if_pos a, if_pos a]
    by_cases b : j = 3
    · rw [if_pos b, if_pos b]; exact fLi_eq (h1 4 (by decide) (by decide) (by decide) (by decide) (by decide) (by decide) (by decide) (by decide) (by decide))
    · rw [if_neg b, if_neg b]
      have k : ∀ a, a < 8 → fk a ≠ 16 ∧ fk a ≠ 20 ∧ fk a ≠ 21 ∧ fk a ≠ 22 ∧ fk a ≠ 23 ∧ fk a ≠ 24 ∧ fk a ≠ 28 ∧ fk a ≠ 38 ∧ fk a ≠ 39 := by decide
      obtain ⟨k1, k2, k3, k4, k5, k6, k7, k8, k9⟩ := k j a
      exact fI_eq (h1 _ k1 k2 k3 k4 k5 k6 k7 k8 k9)
  · rw [if_neg a, if_neg a, h2 _ _ (by omega) (by omega), h2 _ _ (by omega) (by omega), h2 _ _ (by decide) (by decide)]
theorem RMs.of {ps : List Nat} (R : RMs w V) (O : only ps w w1) (h : ∀ q, 65 ≤ q → q ≤ 72 → q ∉ ps) : RMs w1 V := by
  intro j hj
  rw [← R j hj]
  exact fld_e (fun k _ _ _ _ _ _ _ _ _ => O.fv (h 65 (by decide) (by decide))) (fun q i a b => O.rIe (h q (by omega) b)) j
/-! what is read -/
theorem RCs.f0 (R : RCs w p V) : fI w p 0 = V 0 := R.1 0 (by decide)
theorem RCs.f1 (R : RCs w p V) : fI w p 1 = V 1 := R.1 1 (by decide)
theorem RCs.f2 (R : RCs w p V) : fI w p 2 = V 2 := R.1 2 (by decide)
theorem RCs.f3 (R : RCs w p V) : fI w p 3 = V 6 := R.1 6 (by decide)
theorem RCs.f4 (R : RCs w p V) : fI w p 4 = V 7 := R.1 7 (by decide)
theorem RCs.f6 (R : RCs w p V) : fLi w p 6 = V 3 := R.1 3 (by decide)
theorem RCs.rv (R : RCs w p V) {r i : Nat} (h4 : 4 ≤ r) (h11 : r < 11) (h8 : i < 8) (hi : i < vb r) : rI w (p + r) i = V (vx r i) := by
  obtain ⟨v1, v2, v3, v4⟩ := vx_ok r h11 i h8 h4 hi
  rw [← R.1 _ v4]
  unfold sc
  rw [v1, v2, if_neg (by omega)]
theorem RCs.sz (R : RCs w 3 V) : szC w = szV V := by unfold szC szV; rw [R.f0, R.f1]
theorem RMs.f0 (R : RMs w V) : fI w 65 0 = V 0 := R 0 (by decide)
theorem RMs.f1 (R : RMs w V) : fI w 65 1 = V 1 := R 1 (by decide)
theorem RMs.f2 (R : RMs w V) : fI w 65 3 = V 2 := R 2 (by decide)
theorem RMs.f3 (R : RMs w V) : fLi w 65 4 = V 3 := R 3 (by decide)
theorem RMs.f4 (R : RMs w V) : fI w 65 7 = V 4 := R 4 (by decide)
theorem RMs.f5 (R : RMs w V) : fI w 65 8 = V 5 := R 5 (by decide)
theorem RMs.f6 (R : RMs w V) : fI w 65 9 = V 6 := R 6 (by decide)
theorem RMs.f7 (R : RMs w V) : fI w 65 14 = V 7 := R 7 (by decide)
theorem RMs.sz (R : RMs w V) : szM w = szV V := by unfold szM szV; rw [R.f0, R.f1]
theorem RMs.ra (R : RMs w V) {i c : Nat} (hi : i < 4) (hc : c < 4) : rI w (67 + c) i = V (8 + 4 * i + c) := by rw [← R _ (by omega), fld_a hi hc]
theorem RMs.rb (R : RMs w V) {i c : Nat} (hi : i < 8) (hc : c < 2) : rI w (71 + c) i = V (24 + 2 * i + c) := by rw [← R _ (by omega), fld_b hi hc]
theorem RMs.rc (R : RMs w V) {i : Nat} (hi : i < 36) : rI w 66 i = V (40 + i) := by rw [← R _ (by omega), fld_c hi]
end RCS
