/-! ===== the model behind rows of work ===== -/
theorem RMs.wr {w w1 : am_W} {V : Nat → Int} (R : RMs w V) (I : ab_inv ab_TT ab_sets w) (J : ab_J ab_TT ab_sets ab_WR w w1) : RMs w1 V := by
  have f65 : ∀ k, k ≠ 20 → k ≠ 21 → k ≠ 22 → k ≠ 23 → k ≠ 24 → k ≠ 28 → am_fv w1 65 k = am_fv w 65 k := fun k a b c d e f => fr_fv J I (p := 65) rfl (by decide) (by
    have h : ∀ x ∈ ab_WR.2, x.2 = 20 ∨ x.2 = 21 ∨ x.2 = 22 ∨ x.2 = 23 ∨ x.2 = 24 ∨ x.2 = 28 := by decide
    intro z
    have := h _ z
    omega)
  have r65 : ∀ q i, 66 ≤ q → q ≤ 72 → rI w1 q i = rI w q i := fun q i a b => by
    unfold rI
    rw [fr_row J.2 (p := q) (by
      have h : ∀ q, q < 73 → ¬ 66 ≤ q ∨ q ∉ ab_WR.1 := by decide
      exact (h q (by omega)).resolve_left (fun z => z a)) (fun k z => by
      have h : ∀ x ∈ ab_WR.2, x.1 = 65 := by decide
      have := h _ z
      have : q = 65 := this
      omega)]
  intro j hj
  rw [← R j hj]
  exact fld_e (fun k _ a b c d e f _ _ => f65 k a b c d e f) (fun q i a b => r65 q i a b) j
