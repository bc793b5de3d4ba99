/-! ===== what may be written: more; frames ===== -/
def ab_WR2 : ab_wT := (List.range 89, [])
theorem fr_cell {wr : ab_wT} {w w1 : am_W} {p : Nat} (h : ab_fr wr w w1) (hp : p ∉ wr.1) (hk : ∀ k : Nat, (p, k) ∉ wr.2) : w1[p]? = w[p]? := h.1 p hp hk
theorem fr_fv {T : List ab_C} {sets : List (List Nat)} {wr : ab_wT} {w w1 : am_W} {p ci k : Nat} {ts : List ab_F} (h : ab_J T sets wr w w1) (I : ab_inv T sets w) (hT : T[p]? = some (.inr (ci, ts))) (hp : p ∉ wr.1) (hk : (p, k) ∉ wr.2) : am_fv w1 p k = am_fv w p k := by
  obtain ⟨q, w2, fs, rfl, f1, f2⟩ := I.2 _ _ hT
  obtain ⟨fs1, e1, e2⟩ := h.2.2 p ci fs hp w2
  unfold am_fv am_fs
  rw [w2, e1]
  exact e2 k hk
theorem fr_row {wr : ab_wT} {w w1 : am_W} {p : Nat} (h : ab_fr wr w w1) (hp : p ∉ wr.1) (hk : ∀ k : Nat, (p, k) ∉ wr.2) : am_row w1 p = am_row w p := by unfold am_row; rw [fr_cell h hp hk]
theorem fr_rowl {wr : ab_wT} {w w1 : am_W} {p : Nat} (h : ab_fr wr w w1) (hp : p ∉ wr.1) (hk : ∀ k : Nat, (p, k) ∉ wr.2) : am_rowl w1 p = am_rowl w p := by unfold am_rowl; rw [fr_cell h hp hk]
theorem fr_any {w w1 : am_W} (hl : w1.length = w.length) (hw : w.length = 89) : ab_fr ab_WR2 w w1 := by
  refine ⟨fun a ha _ => ?_, fun a c fs0 ha h0 => ?_⟩
  · have h89 : 89 ≤ a := by
      apply Classical.byContradiction
      intro q
      exact ha (List.mem_range.mpr (by omega))
    rw [List.getElem?_eq_none (by omega), List.getElem?_eq_none (by omega)]
  · have h89 : 89 ≤ a := by
      apply Classical.byContradiction
      intro q
      exact ha (List.mem_range.mpr (by omega))
    rw [List.getElem?_eq_none (by omega)] at h0
    cases h0
theorem J2_of {wr : ab_wT} {w0 w w1 : am_W} (I : ab_inv ab_TT ab_sets w) (h : ab_J ab_TT ab_sets wr w w1) : ab_J ab_TT ab_sets ab_WR2 w w1 := ⟨h.1, fr_any (by rw [h.1.1, I.1]) I.1⟩
theorem ok_WR2 {wr : ab_wT} {d z : Nat} {m : ab_M} (h : ab_ok ab_TT ab_sets wr d z m) : ab_ok ab_TT ab_sets ab_WR2 d z m := fun w as I hv => ⟨(h w as I hv).1, (h w as I hv).2.mono fun _ _ q => ⟨J2_of (w0 := w) I q.1, q.2⟩⟩
theorem k_ones2 : ab_ok ab_TT ab_sets ab_WR2 1 109 m_ones := ok_WR2 k_ones
