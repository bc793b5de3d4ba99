/-! ===== what may be written: more; frames ===== -/
noncomputable def ab_WR2 : ab_wT := ([0, 1, 2, 3, 4, 5, 6, 7, 8, 9, 10, 11, 12, 13, 16, 17, 18, 19, 20, 21, 22, 23, 24, 25, 26, 27, 28, 29, 30, 31, 32, 33, 34, 35, 36, 37, 38, 39, 40, 41, 42, 43, 44, 45, 46, 47, 48, 49, 50, 51, 52, 53, 54, 55, 56, 57, 58, 59, 60, 61, 62, 63, 64, 65, 66, 67, 68, 69, 70, 71, 72, 73, 74, 75, 76, 77, 78, 79, 80, 81, 82, 83, 84, 85, 86], [])
noncomputable def ab_WR3 : ab_wT := ([0, 1, 2, 3, 4, 5, 6, 7, 8, 9, 10, 11, 12, 13, 16, 17, 18, 19, 20, 21, 22, 23, 24, 25, 26, 27, 28, 29, 30, 31, 32, 33, 34, 35, 36, 37, 38, 39, 40, 41, 42, 43, 44, 45, 46, 47, 48, 49, 50, 51, 52, 53, 54, 55, 56, 57, 58, 59, 60, 61, 62, 63, 64, 65, 66, 67, 68, 69, 70, 71, 72, 73, 74, 75, 76, 77, 78, 79, 80, 81, 82, 83, 84, 85, 86, 87, 88], [])
noncomputable def ab_WR4 : ab_wT := ([0, 1, 2, 3, 4, 5, 6, 7, 8, 9, 10, 11, 12, 13, 16, 17, 18, 19, 20, 21, 22, 23, 24, 25, 26, 27, 28, 29, 30, 31, 32, 33, 34, 35, 36, 37, 38, 39, 40, 41, 42, 43, 44, 45, 46, 47, 48, 49, 50, 51, 52, 53, 54, 55, 56, 57, 58, 59, 60, 61, 62, 63, 64, 65, 66, 67, 68, 69, 70, 71, 72, 73, 74, 75, 76, 77, 78, 79, 80, 81, 82, 83, 84, 85, 86, 87], [])
noncomputable def ab_WR6 : ab_wT := ([0, 1, 2, 3, 4, 5, 6, 7, 8, 9, 10, 11, 12, 13, 15, 16, 17, 18, 19, 20, 21, 22, 23, 24, 25, 26, 27, 28, 29, 30, 31, 32, 33, 34, 35, 36, 37, 38, 39, 40, 41, 42, 43, 44, 45, 46, 47, 48, 49, 50, 51, 52, 53, 54, 55, 56, 57, 58, 59, 60, 61, 62, 63, 64, 65, 66, 67, 68, 69, 70, 71, 72, 73, 74, 75, 76, 77, 78, 79, 80, 81, 82, 83, 84, 85, 86], [])
theorem fr_cell {wr : ab_wT} {w w1 : am_W} {p : Nat} (h : ab_fr wr w w1) (hp : p ∉ wr.1) (hk : ∀ k : Nat, (p, k) ∉ wr.2) : w1[p]? = w[p]? := h.1 p hp hk
theorem fr_fv {T : List ab_C} {sets : List (List Nat)} {wr : ab_wT} {w w1 : am_W} {p ci k : Nat} {ts : List ab_F} (h : ab_J T sets wr w w1) (I : ab_inv T sets w) (hT : T[p]? = some (.inr (ci, ts))) (hp : p ∉ wr.1) (hk : (p, k) ∉ wr.2) : am_fv w1 p k = am_fv w p k := by
  obtain ⟨q, w2, fs, rfl, f1, f2⟩ := I.2 _ _ hT
  obtain ⟨fs1, e1, e2⟩ := h.2.2 p ci fs hp w2
  unfold am_fv am_fs
  rw [w2, e1]
  exact e2 k hk
theorem fr_row {wr : ab_wT} {w w1 : am_W} {p : Nat} (h : ab_fr wr w w1) (hp : p ∉ wr.1) (hk : ∀ k : Nat, (p, k) ∉ wr.2) : am_row w1 p = am_row w p := by unfold am_row; rw [fr_cell h hp hk]
theorem fr_rowl {wr : ab_wT} {w w1 : am_W} {p : Nat} (h : ab_fr wr w w1) (hp : p ∉ wr.1) (hk : ∀ k : Nat, (p, k) ∉ wr.2) : am_rowl w1 p = am_rowl w p := by unfold am_rowl; rw [fr_cell h hp hk]
theorem fr_sub {wr wr2 : ab_wT} {w w1 : am_W} (h : ab_fr wr w w1) (h1 : ∀ p ∈ wr.1, p ∈ wr2.1) (h2 : ∀ q ∈ wr.2, q.1 ∈ wr2.1) : ab_fr wr2 w w1 := by
  have g : ∀ a : Nat, a ∉ wr2.1 → (∀ k : Nat, (a, k) ∉ wr.2) := fun a ha k hk => ha (h2 _ hk)
  refine ⟨fun a ha _ => h.1 a (fun z => ha (h1 a z)) (g a ha), fun a c fs0 ha h0 => ?_⟩
  refine ⟨fs0, ?_, fun _ _ => rfl⟩
  rw [h.1 a (fun z => ha (h1 a z)) (g a ha)]
  exact h0
theorem J2_of {w w1 : am_W} (h : ab_J ab_TT ab_sets ab_WR w w1) : ab_J ab_TT ab_sets ab_WR2 w w1 := ⟨h.1, fr_sub h.2 (by decide) (by decide)⟩
theorem J3_of {w w1 : am_W} (h : ab_J ab_TT ab_sets ab_WR2 w w1) : ab_J ab_TT ab_sets ab_WR3 w w1 := ⟨h.1, fr_sub h.2 (by decide) (by decide)⟩
theorem J34_of {w w1 : am_W} (h : ab_J ab_TT ab_sets ab_WR4 w w1) : ab_J ab_TT ab_sets ab_WR3 w w1 := ⟨h.1, fr_sub h.2 (by decide) (by decide)⟩
theorem J26_of {w w1 : am_W} (h : ab_J ab_TT ab_sets ab_WR2 w w1) : ab_J ab_TT ab_sets ab_WR6 w w1 := ⟨h.1, fr_sub h.2 (by decide) (by decide)⟩
theorem ok_WR2 {d z : Nat} {m : ab_M} (h : ab_ok ab_TT ab_sets ab_WR d z m) : ab_ok ab_TT ab_sets ab_WR2 d z m := fun w as I hv => ⟨(h w as I hv).1, (h w as I hv).2.mono fun _ _ q => ⟨J2_of q.1, q.2⟩⟩
theorem k_ones2 : ab_ok ab_TT ab_sets ab_WR2 1 109 m_ones := ok_WR2 k_ones
/-- the class's images lie where they lay -/
noncomputable def K14 (w : am_W) : Prop := w[14]? = some (.inl (.inr (.inr [some 43, some 54])))
theorem K14.o6 {w w1 : am_W} (h : K14 w) (J : ab_J ab_TT ab_sets ab_WR6 w w1) : K14 w1 := (fr_cell J.2 (by decide) (fun k h => by cases h)).trans h
theorem K14.of {w w1 : am_W} (h : K14 w) (J : ab_J ab_TT ab_sets ab_WR3 w w1) : K14 w1 := (fr_cell J.2 (by decide) (fun k h => by cases h)).trans h
