/-! ===== arithmetic and comparisons of the checker are right ===== -/
section ABA
variable {sets : List (List Nat)} {E : ab_E} {σ : List Int} {a b : ab_S} {x y : Int32}
theorem ab_add_i (h : ab_env E σ) (ha : a.2.1 < σ.length) (hb : b.2.1 < σ.length) (hx : x.toInt = σ.getD a.2.1 0 + a.2.2) (hy : y.toInt = σ.getD b.2.1 0 + b.2.2) : ∃ τ, ab_env (ab_add E a b).1 (σ ++ τ) ∧ ab_sl sets (σ ++ τ) (ab_add E a b).2 (.int (x + y)) := by
  have i1 := ab_iv_of h ha hx
  have i2 := ab_iv_of h hb hy
  unfold ab_add
  cases h1 : Nat.beq b.2.1 0 with
  | true =>
    simp only [cond_true]
    have e := Nat.eq_of_beq_eq_true h1
    rw [e, h.2.2.1] at hy
    exact ab_off_i h ha (by rw [Int32.toInt_add, hx, hy]; congr 1; omega)
  | false =>
    cases h2 : Nat.beq a.2.1 0 with
    | true =>
      simp only [cond_true, cond_false]
      have e := Nat.eq_of_beq_eq_true h2
      rw [e, h.2.2.1] at hx
      exact ab_off_i h hb (by rw [Int32.toInt_add, hx, hy]; congr 1; omega)
    | false =>
      simp only [cond_false]
      exact ⟨_, ab_r32_i h (Int32.toInt_add x y) (by omega) (by omega)⟩
theorem ab_sub_i (h : ab_env E σ) (ha : a.2.1 < σ.length) (hb : b.2.1 < σ.length) (hx : x.toInt = σ.getD a.2.1 0 + a.2.2) (hy : y.toInt = σ.getD b.2.1 0 + b.2.2) : ∃ τ, ab_env (ab_sub E a b).1 (σ ++ τ) ∧ ab_sl sets (σ ++ τ) (ab_sub E a b).2 (.int (x - y)) := by
  have i1 := ab_iv_of h ha hx
  have i2 := ab_iv_of h hb hy
  unfold ab_sub
  cases h1 : Nat.beq b.2.1 0 with
  | true =>
    simp only [cond_true]
    have e := Nat.eq_of_beq_eq_true h1
    rw [e, h.2.2.1] at hy
    exact ab_off_i h ha (by rw [Int32.toInt_sub, hx, hy]; congr 1; omega)
  | false =>
    simp only [cond_false]
    exact ⟨_, ab_r32_i h (Int32.toInt_sub x y) (by omega) (by omega)⟩
theorem ab_mulb {l1 h1 l2 h2 u v : Int} (a1 : l1 ≤ u) (a2 : u ≤ h1) (b1 : l2 ≤ v) (b2 : v ≤ h2) : ab_min (ab_min (l1 * l2) (l1 * h2)) (ab_min (h1 * l2) (h1 * h2)) ≤ u * v ∧ u * v ≤ ab_max (ab_max (l1 * l2) (l1 * h2)) (ab_max (h1 * l2) (h1 * h2)) := by
  have m1 := ab_minmax (l1 * l2) (l1 * h2)
  have m2 := ab_minmax (h1 * l2) (h1 * h2)
  have m3 := ab_minmax (ab_min (l1 * l2) (l1 * h2)) (ab_min (h1 * l2) (h1 * h2))
  have m4 := ab_minmax (ab_max (l1 * l2) (l1 * h2)) (ab_max (h1 * l2) (h1 * h2))
  -- first v: l1 * v and h1 * v lie between, then u * v between those
  have c1 : ab_min (l1 * l2) (l1 * h2) ≤ l1 * v ∧ l1 * v ≤ ab_max (l1 * l2) (l1 * h2) := by
    rcases Int.le_total 0 l1 with q | q
    · have e1 := Int.mul_le_mul_of_nonneg_left b1 q
      have e2 := Int.mul_le_mul_of_nonneg_left b2 q
      omega
    · have e1 := Int.mul_le_mul_of_nonpos_left q b1
      have e2 := Int.mul_le_mul_of_nonpos_left q b2
      omega
  have c2 : ab_min (h1 * l2) (h1 * h2) ≤ h1 * v ∧ h1 * v ≤ ab_max (h1 * l2) (h1 * h2) := by
    rcases Int.le_total 0 h1 with q | q
    · have e1 := Int.mul_le_mul_of_nonneg_left b1 q
      have e2 := Int.mul_le_mul_of_nonneg_left b2 q
      omega
    · have e1 := Int.mul_le_mul_of_nonpos_left q b1
      have e2 := Int.mul_le_mul_of_nonpos_left q b2
      omega
  rcases Int.le_total 0 v with q | q
  · have e1 := Int.mul_le_mul_of_nonneg_right a1 q
    have e2 := Int.mul_le_mul_of_nonneg_right a2 q
    omega
  · have e1 := Int.mul_le_mul_of_nonpos_right a1 q
    have e2 := Int.mul_le_mul_of_nonpos_right a2 q
    omega
theorem ab_mul_i (h : ab_env E σ) (ha : a.2.1 < σ.length) (hb : b.2.1 < σ.length) (hx : x.toInt = σ.getD a.2.1 0 + a.2.2) (hy : y.toInt = σ.getD b.2.1 0 + b.2.2) : ∃ τ, ab_env (ab_mul E a b).1 (σ ++ τ) ∧ ab_sl sets (σ ++ τ) (ab_mul E a b).2 (.int (x * y)) := by
  have i1 := ab_iv_of h ha hx
  have i2 := ab_iv_of h hb hy
  have m := ab_mulb i1.1 i1.2 i2.1 i2.2
  exact ⟨_, ab_r32_i h (Int32.toInt_mul x y) m.1 m.2⟩
theorem ab_nzero {q : Int × Int} (h : ab_nz q = true) {v : Int} (h1 : q.1 ≤ v) (h2 : v ≤ q.2) : v ≠ 0 := by
  unfold ab_nz at h
  rcases Bool.or_eq_true _ _ |>.mp h with g | g
  · have := of_decide_eq_true g; omega
  · have := of_decide_eq_true g; omega
theorem ab_tdiv {u v : Int} (h1 : 0 ≤ u) (h2 : 0 < v) : 0 ≤ u.tdiv v ∧ u.tdiv v ≤ u := by
  rw [Int.tdiv_eq_ediv_of_nonneg h1]
  exact ⟨Int.ediv_nonneg h1 (Int.le_of_lt h2), Int.ediv_le_self _ h1⟩
theorem ab_div_i {q : ab_E × ab_S} (hq : ab_div E a b = some q) (h : ab_env E σ) (ha : a.2.1 < σ.length) (hb : b.2.1 < σ.length) (hx : x.toInt = σ.getD a.2.1 0 + a.2.2) (hy : y.toInt = σ.getD b.2.1 0 + b.2.2) : ¬ y = 0 ∧ ∃ τ, ab_env q.1 (σ ++ τ) ∧ ab_sl sets (σ ++ τ) q.2 (.int (x / y)) := by
  have i1 := ab_iv_of h ha hx
  have i2 := ab_iv_of h hb hy
  unfold ab_div at hq
  obtain ⟨g1, g2⟩ := am_bif hq
  have hne : y.toInt ≠ 0 := ab_nzero g1 i2.1 i2.2
  refine ⟨fun e => hne (by rw [e]; rfl), ?_⟩
  cases g2
  cases hc : (decide (0 < (ab_iv E b).1) && decide (0 ≤ (ab_iv E a).1)) with
  | false => exact ⟨_, ab_new_i h (ab_any32 _).1 (ab_any32 _).2⟩
  | true =>
    obtain ⟨c1, c2⟩ := am_and hc
    have c1 := of_decide_eq_true c1
    have c2 := of_decide_eq_true c2
    have e : (x / y).toInt = x.toInt.tdiv y.toInt := Int32.toInt_div_of_ne_right x y (fun q => by
      have : y.toInt = -1 := by rw [q]; decide
      omega)
    have t := ab_tdiv (u := x.toInt) (v := y.toInt) (by omega) (by omega)
    exact ⟨_, ab_new_i h (by rw [e]; exact t.1) (by rw [e]; omega)⟩
theorem ab_rem_i {q : ab_E × ab_S} (hq : ab_rem E a b = some q) (h : ab_env E σ) (ha : a.2.1 < σ.length) (hb : b.2.1 < σ.length) (hx : x.toInt = σ.getD a.2.1 0 + a.2.2) (hy : y.toInt = σ.getD b.2.1 0 + b.2.2) : ¬ y = 0 ∧ ∃ τ, ab_env q.1 (σ ++ τ) ∧ ab_sl sets (σ ++ τ) q.2 (.int (x - x / y * y)) := by
  have i1 := ab_iv_of h ha hx
  have i2 := ab_iv_of h hb hy
  unfold ab_rem at hq
  obtain ⟨g1, g2⟩ := am_bif hq
  have hne : y.toInt ≠ 0 := ab_nzero g1 i2.1 i2.2
  refine ⟨fun e => hne (by rw [e]; rfl), ?_⟩
  cases g2
  cases hc : (decide (0 < (ab_iv E b).1) && decide (0 ≤ (ab_iv E a).1)) with
  | false => exact ⟨_, ab_new_i h (ab_any32 _).1 (ab_any32 _).2⟩
  | true =>
    obtain ⟨c1, c2⟩ := am_and hc
    have c1 := of_decide_eq_true c1
    have c2 := of_decide_eq_true c2
    obtain ⟨u, hu, eu⟩ : ∃ u : Nat, u < 2 ^ 31 ∧ x = nI u := nI_of (fun q => by rw [Int32.lt_iff_toInt_lt] at q; have : (0 : Int32).toInt = 0 := rfl; omega)
    obtain ⟨v, hv, ev⟩ : ∃ v : Nat, v < 2 ^ 31 ∧ y = nI v := nI_of (fun q => by rw [Int32.lt_iff_toInt_lt] at q; have : (0 : Int32).toInt = 0 := rfl; omega)
    have tu : x.toInt = u := by rw [eu]; exact nI_toInt hu
    have tv : y.toInt = v := by rw [ev]; exact nI_toInt hv
    have hv0 : 0 < v := by omega
    have e : (x - x / y * y).toInt = ((u % v : Nat) : Int) := by
      rw [eu, ev, pk_rem hu hv0 hv]
      exact nI_toInt (Nat.lt_of_lt_of_le (Nat.mod_lt _ hv0) (Nat.le_of_lt hv))
    have l1 := Nat.mod_lt u hv0
    have l2 := Nat.mod_le u v
    have m := ab_minmax (ab_iv E a).2 ((ab_iv E b).2 - 1)
    exact ⟨_, ab_new_i h (by rw [e]; omega) (by rw [e]; omega)⟩
theorem ab_andb {x y : Int32} (h : 0 ≤ y.toInt) : 0 ≤ (x &&& y).toInt ∧ (x &&& y).toInt ≤ y.toInt := by
  obtain ⟨v, hv, ev⟩ : ∃ v : Nat, v < 2 ^ 31 ∧ y = nI v := nI_of (fun q => by rw [Int32.lt_iff_toInt_lt] at q; have : (0 : Int32).toInt = 0 := rfl; omega)
  have hn : (x &&& y).toBitVec.toNat = x.toBitVec.toNat &&& v := by
    rw [ev]
    show (x.toBitVec &&& (nI v).toBitVec).toNat = _
    rw [BitVec.toNat_and, pk_tn (by omega)]
  have hle : x.toBitVec.toNat &&& v ≤ v := Nat.and_le_right
  have e : x &&& y = nI (x.toBitVec.toNat &&& v) := by
    apply Int32.toBitVec_inj.mp
    apply BitVec.eq_of_toNat_eq
    rw [hn, pk_tn (by omega)]
  have t1 : (x &&& y).toInt = ((x.toBitVec.toNat &&& v : Nat) : Int) := by rw [e]; exact nI_toInt (by omega)
  have t2 : y.toInt = (v : Int) := by rw [ev]; exact nI_toInt hv
  omega
theorem ab_and_i (h : ab_env E σ) (ha : a.2.1 < σ.length) (hb : b.2.1 < σ.length) (hx : x.toInt = σ.getD a.2.1 0 + a.2.2) (hy : y.toInt = σ.getD b.2.1 0 + b.2.2) : ∃ τ, ab_env (ab_and E a b).1 (σ ++ τ) ∧ ab_sl sets (σ ++ τ) (ab_and E a b).2 (.int (x &&& y)) := by
  have i1 := ab_iv_of h ha hx
  have i2 := ab_iv_of h hb hy
  unfold ab_and
  cases h1 : decide (0 ≤ (ab_iv E b).1) with
  | true =>
    have g := of_decide_eq_true h1
    have t := ab_andb (x := x) (y := y) (by omega)
    exact ⟨_, ab_new_i h t.1 (by omega)⟩
  | false =>
    cases h2 : decide (0 ≤ (ab_iv E a).1) with
    | true =>
      have g := of_decide_eq_true h2
      have t := ab_andb (x := y) (y := x) (by omega)
      rw [Int32.and_comm] at t
      exact ⟨_, ab_new_i h t.1 (by omega)⟩
    | false => exact ⟨_, ab_new_i h (ab_any32 _).1 (ab_any32 _).2⟩
theorem ab_mx_i (h : ab_env E σ) (ha : a.2.1 < σ.length) (hb : b.2.1 < σ.length) (hx : x.toInt = σ.getD a.2.1 0 + a.2.2) (hy : y.toInt = σ.getD b.2.1 0 + b.2.2) : ∃ τ, ab_env (ab_mx E a b).1 (σ ++ τ) ∧ ab_sl sets (σ ++ τ) (ab_mx E a b).2 (.int (if x < y then y else x)) := by
  have i1 := ab_iv_of h ha hx
  have i2 := ab_iv_of h hb hy
  have m1 := ab_minmax (ab_iv E a).1 (ab_iv E b).1
  have m2 := ab_minmax (ab_iv E a).2 (ab_iv E b).2
  have hc : x < y ↔ x.toInt < y.toInt := Int32.lt_iff_toInt_lt
  by_cases q : x < y
  · rw [if_pos q]
    have := hc.mp q
    exact ⟨_, ab_new_i h (by omega) (by omega)⟩
  · rw [if_neg q]
    have : ¬ x.toInt < y.toInt := fun z => q (hc.mpr z)
    exact ⟨_, ab_new_i h (by omega) (by omega)⟩
theorem ab_mn_i (h : ab_env E σ) (ha : a.2.1 < σ.length) (hb : b.2.1 < σ.length) (hx : x.toInt = σ.getD a.2.1 0 + a.2.2) (hy : y.toInt = σ.getD b.2.1 0 + b.2.2) : ∃ τ, ab_env (ab_mn E a b).1 (σ ++ τ) ∧ ab_sl sets (σ ++ τ) (ab_mn E a b).2 (.int (if y < x then y else x)) := by
  have i1 := ab_iv_of h ha hx
  have i2 := ab_iv_of h hb hy
  have m1 := ab_minmax (ab_iv E a).1 (ab_iv E b).1
  have m2 := ab_minmax (ab_iv E a).2 (ab_iv E b).2
  have hc : y < x ↔ y.toInt < x.toInt := Int32.lt_iff_toInt_lt
  by_cases q : y < x
  · rw [if_pos q]
    have := hc.mp q
    exact ⟨_, ab_new_i h (by omega) (by omega)⟩
  · rw [if_neg q]
    have : ¬ y.toInt < x.toInt := fun z => q (hc.mpr z)
    exact ⟨_, ab_new_i h (by omega) (by omega)⟩
/-! comparisons -/
theorem ab_up_in (h : ab_env E σ) {s : ab_S} (hs : s.2.1 < σ.length) {lo hi : Int} (h1 : lo ≤ σ.getD s.2.1 0 + s.2.2) (h2 : σ.getD s.2.1 0 + s.2.2 ≤ hi) : ∃ E1 ∈ ab_up E s lo hi, ab_env E1 σ := by
  have g := h.2.2.2 s.2.1 (by rw [← h.1]; exact hs)
  have m1 := ab_minmax (E.getD s.2.1 (0, 0)).1 (lo - s.2.2)
  have m2 := ab_minmax (E.getD s.2.1 (0, 0)).2 (hi - s.2.2)
  unfold ab_up
  have hc : decide (ab_max (E.getD s.2.1 (0, 0)).1 (lo - s.2.2) ≤ ab_min (E.getD s.2.1 (0, 0)).2 (hi - s.2.2)) = true := decide_eq_true (by omega)
  rw [hc]
  refine ⟨_, List.mem_singleton.mpr rfl, ?_⟩
  obtain ⟨e1, e2, e3, e4⟩ := h
  refine ⟨by rw [List.length_set]; exact e1, e2, e3, fun i hi => ?_⟩
  rw [List.length_set] at hi
  rw [List.getD_eq_getElem?_getD, List.getElem?_set]
  by_cases q : s.2.1 = i
  · subst q
    rw [if_pos rfl, if_pos hi]
    show _ ≤ σ.getD s.2.1 0 ∧ σ.getD s.2.1 0 ≤ _
    constructor <;> simp only [Option.getD_some] <;> omega
  · rw [if_neg q, ← List.getD_eq_getElem?_getD]
    exact e4 i hi
end ABA
