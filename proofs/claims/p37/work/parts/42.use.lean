/-! ===== the checker's contracts, used by hand ===== -/
theorem vF_r {sets : List (List Nat)} {p : Nat} {hi : Int} : ab_vF sets (2, (p : Int), hi) (.ref p) := Or.inr (Or.inr (Or.inl ⟨rfl, p, rfl, rfl⟩))
theorem vF_i {sets : List (List Nat)} {lo hi : Int} {x : Int32} (h1 : lo ≤ x.toInt) (h2 : x.toInt ≤ hi) : ab_vF sets (0, lo, hi) (.int x) := Or.inl ⟨rfl, x, rfl, h1, h2⟩
theorem vF_l {sets : List (List Nat)} {lo hi : Int} {x : Int64} (h1 : lo ≤ x.toInt) (h2 : x.toInt ≤ hi) : ab_vF sets (1, lo, hi) (.long x) := Or.inr (Or.inl ⟨rfl, x, rfl, h1, h2⟩)
theorem vF_ti {sets : List (List Nat)} {x : Int32} : ab_vF sets (0, -2147483648, 2147483647) (.int x) := vF_i (ab_any32 x).1 (ab_any32 x).2
theorem vF_tl {sets : List (List Nat)} {x : Int64} : ab_vF sets (1, -9223372036854775808, 9223372036854775807) (.long x) := vF_l (ab_any64 x).1 (ab_any64 x).2
noncomputable def ok_pi (L H : Int) (m : ab_M) : Bool := m.2.all (fun o => match o.1 with | some (0, lo, hi) => decide (L ≤ lo) && decide (hi ≤ H) | _ => false)
noncomputable def ok_pl (m : ab_M) : Bool := m.2.all (fun o => match o.1 with | some (1, _, _) => true | _ => false)
noncomputable def ok_pv (m : ab_M) : Bool := m.2.all (fun o => match o.1 with | none => true | _ => false)
section USE
variable {T : List ab_C} {sets : List (List Nat)} {wr : ab_wT} {d z : Nat} {m : ab_M} {w : am_W} {as : List Value}
theorem ok_i (L H : Int) (h : ab_ok T sets wr d z m) (hp : ok_pi L H m = true) (I : ab_inv T sets w) (hv : ab_vals sets as m.1) : aw none d z (fun r w1 => ab_J T sets wr w w1 ∧ ∃ b : Int32, r = some (.int b) ∧ L ≤ b.toInt ∧ b.toInt ≤ H) (0, am_entry z as, []) w := by
  refine (h w as I hv).2.mono ?_
  rintro r w1 ⟨J, o, ho, hr, -⟩
  have h1 := List.all_eq_true.mp hp o ho
  obtain ⟨p, q⟩ := o
  refine ⟨J, ?_⟩
  simp only at h1 hr
  split at h1
  · cases r with
    | none => exact hr.elim
    | some v =>
      obtain ⟨x, rfl, a, b⟩ := ab_vFi hr
      have c1 := of_decide_eq_true (am_and h1).1
      have c2 := of_decide_eq_true (am_and h1).2
      exact ⟨x, rfl, by omega, by omega⟩
  · cases h1
theorem ab_vFl {lo hi : Int} {v : Value} (h : ab_vF sets (1, lo, hi) v) : ∃ x : Int64, v = .long x ∧ lo ≤ x.toInt ∧ x.toInt ≤ hi := by
  rcases h with ⟨h, -⟩ | ⟨-, x, rfl, e⟩ | ⟨h, -⟩ | ⟨h, -⟩
  · cases h
  · exact ⟨x, rfl, e⟩
  all_goals cases h
theorem ok_l (h : ab_ok T sets wr d z m) (hp : ok_pl m = true) (I : ab_inv T sets w) (hv : ab_vals sets as m.1) : aw none d z (fun r w1 => ab_J T sets wr w w1 ∧ ∃ b : Int64, r = some (.long b)) (0, am_entry z as, []) w := by
  refine (h w as I hv).2.mono ?_
  rintro r w1 ⟨J, o, ho, hr, -⟩
  have h1 := List.all_eq_true.mp hp o ho
  obtain ⟨p, q⟩ := o
  refine ⟨J, ?_⟩
  simp only at h1 hr
  split at h1
  · cases r with
    | none => exact hr.elim
    | some v =>
      obtain ⟨x, rfl, a, b⟩ := ab_vFl hr
      exact ⟨x, rfl⟩
  · cases h1
theorem ok_v (h : ab_ok T sets wr d z m) (hp : ok_pv m = true) (I : ab_inv T sets w) (hv : ab_vals sets as m.1) : aw none d z (fun r w1 => r = none ∧ ab_J T sets wr w w1) (0, am_entry z as, []) w := by
  refine (h w as I hv).2.mono ?_
  rintro r w1 ⟨J, o, ho, hr, -⟩
  have h1 := List.all_eq_true.mp hp o ho
  obtain ⟨p, q⟩ := o
  simp only at h1 hr
  split at h1
  · cases r with
    | none => exact ⟨rfl, J⟩
    | some v => exact hr.elim
  · cases h1
/-- a field is written -/
theorem fs_len {p ci : Nat} {ts : List ab_F} (I : ab_inv T sets w) (hT : T[p]? = some (.inr (ci, ts))) : p < w.length ∧ (am_fs w p).length = ts.length := by
  obtain ⟨q, w1, fs, rfl, f1, f2⟩ := I.2 _ _ hT
  refine ⟨(List.getElem?_eq_some_iff.mp w1).1, ?_⟩
  unfold am_fs
  rw [w1]
  exact f1
theorem fv_st {w2 : am_W} {p ci kf : Nat} {ts : List ab_F} {v : Value} (I : ab_inv T sets w) (hT : T[p]? = some (.inr (ci, ts))) (hk : kf < ts.length) (e : w2 = w.set p (.inr (ci, (am_fs w p).set kf v))) : only [p] w w2 ∧ am_fv w2 p kf = some v ∧ ∀ k, k ≠ kf → am_fv w2 p k = am_fv w p k := by
  obtain ⟨h0, h1⟩ := fs_len I hT
  subst e
  refine ⟨only_set, ?_, fun i hi => ?_⟩
  · unfold am_fv
    rw [am_fs_eq h0, List.getElem?_set_self (by omega)]
  · unfold am_fv
    rw [am_fs_eq h0, List.getElem?_set_ne (fun e => hi e.symm)]
theorem fI_eq {w2 : am_W} {p k : Nat} (h : am_fv w2 p k = am_fv w p k) : fI w2 p k = fI w p k := by unfold fI; rw [h]
theorem fL_eq {w2 : am_W} {p k : Nat} (h : am_fv w2 p k = am_fv w p k) : fL w2 p k = fL w p k := by unfold fL; rw [h]
theorem szM_eq {w2 : am_W} (h0 : am_fv w2 65 0 = am_fv w 65 0) (h1 : am_fv w2 65 1 = am_fv w 65 1) : szM w2 = szM w := by unfold szM; rw [fI_eq h0, fI_eq h1]
end USE
