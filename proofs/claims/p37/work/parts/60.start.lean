/-! ===== the start ===== -/
/-- the world behind both constructors -/
noncomputable def am_W1 : am_W := [.inr (9, [.ref 1, .ref 3, .ref 14, .ref 15, .ref 16, .ref 18, .ref 21, .ref 25, .ref 30, .ref 34, .ref 39, .ref 42]),
  .inr (2, [.ref 2, .int 0]),
  .inl (.inl (0, List.replicate 60 0)),
  .inr (6, [.int 4, .int 4, .int 0, .int 0, .int 0, .long 65535, .long 0, .ref 4, .ref 5, .ref 6, .ref 7, .ref 8, .ref 9, .ref 10, .ref 11, .ref 12, .ref 13]),
  .inl (.inl (0, [46, 46, 46, 46, 46, 46, 46, 46, 46, 46, 46, 46, 46, 46, 46, 46, 0, 0, 0, 0, 0, 0, 0, 0, 0, 0, 0, 0, 0, 0, 0, 0, 0, 0, 0, 0])),
  .inl (.inl (0, [0, 0, 0, 0, 1, 1, 1, 1, 2, 2, 2, 2, 3, 3, 3, 3, 0, 0, 0, 0, 0, 0, 0, 0, 0, 0, 0, 0, 0, 0, 0, 0, 0, 0, 0, 0])),
  .inl (.inl (0, [0, 1, 2, 3, 0, 1, 2, 3, 0, 1, 2, 3, 0, 1, 2, 3, 0, 0, 0, 0, 0, 0, 0, 0, 0, 0, 0, 0, 0, 0, 0, 0, 0, 0, 0, 0])),
  .inl (.inl (0, [1, 2, 3, 4])),
  .inl (.inl (0, [99, 99, 99, 99])),
  .inl (.inl (0, [1, 3])),
  .inl (.inl (0, [0, 0, 0, 0])),
  .inl (.inl (0, [0, 0, 0, 0])),
  .inl (.inl (0, List.replicate 8 0)),
  .inl (.inl (0, List.replicate 8 0)),
  .inl (.inr (.inr [some 43, some 54])),
  .inl (.inl (1, [0, 0])),
  .inr (8, [.int 0, .int 0, .int 0, .int 0, .int 0, .ref 17]),
  .inl (.inl (0, [0, 0, 0, 0])),
  .inr (4, [.ref 19, .ref 20]),
  .inl (.inl (0, List.replicate 36 0)),
  .inl (.inl (0, List.replicate 36 0)),
  .inr (7, [.ref 22, .ref 23, .ref 24, .int 0, .int 0, .int 0, .int 0]),
  .inl (.inl (0, List.replicate 72 0)),
  .inl (.inl (0, List.replicate 72 0)),
  .inl (.inl (0, [0, 0])),
  .inr (5, [.ref 26, .ref 27, .int 0, .int 0, .ref 28, .ref 29]),
  .inl (.inl (0, [0, 0, 0, 0, 0, 0])),
  .inl (.inl (0, [0, 0, 0, 0, 0])),
  .inl (.inl (0, [0, 0, 0, 0, 0])),
  .inl (.inl (0, List.replicate 36 0)),
  .inr (1, [.ref 31, .ref 32, .ref 33, .int 0]),
  .inl (.inr (.inl (List.replicate 36 0))),
  .inl (.inr (.inl (List.replicate 36 0))),
  .inl (.inr (.inl (List.replicate 36 0))),
  .inr (0, [.ref 35, .ref 36, .ref 37, .ref 38, .int 0, .int 0, .int 0]),
  .inl (.inr (.inl (List.replicate 36 0))),
  .inl (.inr (.inl (List.replicate 36 0))),
  .inl (.inr (.inl (List.replicate 36 0))),
  .inl (.inr (.inl (List.replicate 36 0))),
  .inr (3, [.ref 40, .ref 41, .int 0, .int 0]),
  .inl (.inl (0, List.replicate 16 0)),
  .inl (.inl (0, List.replicate 16 0)),
  .inl (.inl (0, List.replicate 51 0)),
  .inr (6, [.int 4, .int 4, .int 0, .int 0, .int 0, .long 65535, .long 0, .ref 44, .ref 45, .ref 46, .ref 47, .ref 48, .ref 49, .ref 50, .ref 51, .ref 52, .ref 53]),
  .inl (.inl (0, [46, 46, 46, 46, 46, 46, 46, 46, 46, 46, 46, 46, 46, 46, 46, 46, 0, 0, 0, 0, 0, 0, 0, 0, 0, 0, 0, 0, 0, 0, 0, 0, 0, 0, 0, 0])),
  .inl (.inl (0, [0, 0, 0, 0, 1, 1, 1, 1, 2, 2, 2, 2, 3, 3, 3, 3, 0, 0, 0, 0, 0, 0, 0, 0, 0, 0, 0, 0, 0, 0, 0, 0, 0, 0, 0, 0])),
  .inl (.inl (0, [0, 1, 2, 3, 0, 1, 2, 3, 0, 1, 2, 3, 0, 1, 2, 3, 0, 0, 0, 0, 0, 0, 0, 0, 0, 0, 0, 0, 0, 0, 0, 0, 0, 0, 0, 0])),
  .inl (.inl (0, [1, 2, 3, 4])),
  .inl (.inl (0, [99, 99, 99, 99])),
  .inl (.inl (0, [1, 3])),
  .inl (.inl (0, [0, 0, 0, 0])),
  .inl (.inl (0, [0, 0, 0, 0])),
  .inl (.inl (0, List.replicate 8 0)),
  .inl (.inl (0, List.replicate 8 0)),
  .inr (6, [.int 4, .int 4, .int 0, .int 0, .int 0, .long 65535, .long 0, .ref 55, .ref 56, .ref 57, .ref 58, .ref 59, .ref 60, .ref 61, .ref 62, .ref 63, .ref 64]),
  .inl (.inl (0, [46, 46, 46, 46, 46, 46, 46, 46, 46, 46, 46, 46, 46, 46, 46, 46, 0, 0, 0, 0, 0, 0, 0, 0, 0, 0, 0, 0, 0, 0, 0, 0, 0, 0, 0, 0])),
  .inl (.inl (0, [0, 0, 0, 0, 1, 1, 1, 1, 2, 2, 2, 2, 3, 3, 3, 3, 0, 0, 0, 0, 0, 0, 0, 0, 0, 0, 0, 0, 0, 0, 0, 0, 0, 0, 0, 0])),
  .inl (.inl (0, [0, 1, 2, 3, 0, 1, 2, 3, 0, 1, 2, 3, 0, 1, 2, 3, 0, 0, 0, 0, 0, 0, 0, 0, 0, 0, 0, 0, 0, 0, 0, 0, 0, 0, 0, 0])),
  .inl (.inl (0, [1, 2, 3, 4])),
  .inl (.inl (0, [99, 99, 99, 99])),
  .inl (.inl (0, [1, 3])),
  .inl (.inl (0, [0, 0, 0, 0])),
  .inl (.inl (0, [0, 0, 0, 0])),
  .inl (.inl (0, List.replicate 8 0)),
  .inl (.inl (0, List.replicate 8 0))]
noncomputable def am_W0 : am_W := am_W1 ++ [.inr (10, [.int 4, .int 4, .ref 66, .int 0, .long 0, .ref 67, .ref 68, .int 1, .int 3, .int 0, .ref 69, .ref 70, .ref 71, .ref 72, .int 0, .ref 73, .int 0, .ref 74, .ref 75, .ref 76, .int 0, .int 0, .int 0, .int 0, .int 0, .ref 77, .ref 78, .ref 79, .int 0, .ref 80, .ref 81, .ref 82, .ref 83, .ref 84, .ref 85, .ref 86, .ref 87, .ref 88, .int 0, .int 0]),
  .inl (.inl (0, List.replicate 36 46)),
  .inl (.inl (0, [1, 2, 3, 4])),
  .inl (.inl (0, [99, 99, 99, 99])),
  .inl (.inl (0, [0, 0, 0, 0])),
  .inl (.inl (0, [0, 0, 0, 0])),
  .inl (.inl (0, List.replicate 8 0)),
  .inl (.inl (0, List.replicate 8 0)),
  .inl (.inl (0, List.replicate 60 0)),
  .inl (.inr (.inl (List.replicate 36 0))),
  .inl (.inr (.inl (List.replicate 36 0))),
  .inl (.inl (0, [0, 0, 0, 0])),
  .inl (.inl (0, List.replicate 36 0)),
  .inl (.inl (0, List.replicate 72 0)),
  .inl (.inl (0, [0, 0, 0, 0, 0, 0])),
  .inl (.inl (0, List.replicate 36 0)),
  .inl (.inl (0, [0, 0, 0, 0, 0])),
  .inl (.inl (0, [0, 0, 0, 0, 0])),
  .inl (.inl (0, List.replicate 36 0)),
  .inl (.inr (.inl (List.replicate 36 0))),
  .inl (.inr (.inl (List.replicate 36 0))),
  .inl (.inl (0, List.replicate 1296 0)),
  .inl (.inr (.inl (List.replicate 200 0))),
  .inl (.inl (1, [0, 0]))]
noncomputable def am_eqV (a b : Value) : Bool := match a, b with
  | .int x, .int y => decide (x = y)
  | .long x, .long y => decide (x = y)
  | .ref x, .ref y => Nat.beq x y
  | _, _ => false
noncomputable def am_eqL {α : Type} (f : α → α → Bool) : List α → List α → Bool
  | [], [] => true
  | x :: xs, y :: ys => f x y && am_eqL f xs ys
  | _, _ => false
theorem am_eqL_s {α : Type} {f : α → α → Bool} (hf : ∀ x y, f x y = true → x = y) : ∀ {a b : List α}, am_eqL f a b = true → a = b
  | [], [], _ => rfl
  | x :: xs, y :: ys, h => by rw [hf x y (am_and h).1, am_eqL_s hf (am_and h).2]
  | [], _ :: _, h => by cases h
  | _ :: _, [], h => by cases h
theorem am_eqV_s (a b : Value) (h : am_eqV a b = true) : a = b := by
  unfold am_eqV at h
  split at h
  · rw [of_decide_eq_true h]
  · rw [of_decide_eq_true h]
  · rw [Nat.eq_of_beq_eq_true h]
  · cases h
noncomputable def am_eqC (a b : am_C) : Bool := match a, b with
  | .inl (.inl (k, l)), .inl (.inl (k1, l1)) => Nat.beq k k1 && am_eqL (fun x y => decide (x = y)) l l1
  | .inl (.inr (.inl l)), .inl (.inr (.inl l1)) => am_eqL (fun x y => decide (x = y)) l l1
  | .inl (.inr (.inr l)), .inl (.inr (.inr l1)) => am_eqL (fun x y => decide (x = y)) l l1
  | .inr (k, l), .inr (k1, l1) => Nat.beq k k1 && am_eqL am_eqV l l1
  | _, _ => false
theorem am_eqC_s (a b : am_C) (h : am_eqC a b = true) : a = b := by
  unfold am_eqC at h
  split at h
  · rw [Nat.eq_of_beq_eq_true (am_and h).1, am_eqL_s (fun x y q => of_decide_eq_true q) (am_and h).2]
  · rw [am_eqL_s (fun x y q => of_decide_eq_true q) h]
  · rw [am_eqL_s (fun x y q => of_decide_eq_true q) h]
  · rw [Nat.eq_of_beq_eq_true (am_and h).1, am_eqL_s am_eqV_s (am_and h).2]
  · cases h
noncomputable def am_obj (ci : Nat) : am_C := .inr (ci, (am_ft ci).map (fun q => am_dflt q.1))
noncomputable def am_sB (z p : Nat) (w w1 : am_W) : Bool := match am_run none 4000 40 z (0, am_entry z [.ref p], []) w with
  | some (none, w2) => am_eqL am_eqC w2 w1
  | _ => false
theorem am_sB_s {z p : Nat} {w w1 : am_W} (h : am_sB z p w w1 = true) : aw none 40 z (fun r w2 => r = none ∧ w2 = w1) (0, am_entry z [.ref p], []) w := by
  unfold am_sB at h
  split at h
  · rename_i w2 e
    exact ⟨4000, none, w2, e, rfl, am_eqL_s am_eqC_s h⟩
  · cases h
set_option maxRecDepth 100000 in
theorem am_s1 : am_sB 59 0 [am_obj 9] am_W1 = true := by decide +kernel
set_option maxRecDepth 100000 in
theorem am_s2 : am_sB 107 65 (am_W1 ++ [am_obj 10]) am_W0 = true := by decide +kernel
/-! it is typed -/
noncomputable def ab_vFB (sets : List (List Nat)) (t : ab_F) (v : Value) : Bool := match v with
  | .int x => Nat.beq t.1 0 && (decide (t.2.1 ≤ x.toInt) && decide (x.toInt ≤ t.2.2))
  | .long x => Nat.beq t.1 1 && (decide (t.2.1 ≤ x.toInt) && decide (x.toInt ≤ t.2.2))
  | .ref p => (Nat.beq t.1 2 && decide ((p : Int) = t.2.1)) || (Nat.beq t.1 3 && ((sets.getD t.2.1.toNat []).contains p && decide (0 ≤ t.2.1)))
  | _ => false
theorem ab_vFB_s {sets : List (List Nat)} {t : ab_F} {v : Value} (h : ab_vFB sets t v = true) : ab_vF sets t v := by
  unfold ab_vFB at h
  split at h
  · obtain ⟨h1, h2⟩ := am_and h
    exact Or.inl ⟨Nat.eq_of_beq_eq_true h1, _, rfl, of_decide_eq_true (am_and h2).1, of_decide_eq_true (am_and h2).2⟩
  · obtain ⟨h1, h2⟩ := am_and h
    exact Or.inr (Or.inl ⟨Nat.eq_of_beq_eq_true h1, _, rfl, of_decide_eq_true (am_and h2).1, of_decide_eq_true (am_and h2).2⟩)
  · rcases (Bool.or_eq_true _ _).mp h with q | q
    · exact Or.inr (Or.inr (Or.inl ⟨Nat.eq_of_beq_eq_true (am_and q).1, _, rfl, of_decide_eq_true (am_and q).2⟩))
    · obtain ⟨q1, q2⟩ := am_and q
      exact Or.inr (Or.inr (Or.inr ⟨Nat.eq_of_beq_eq_true q1, _, rfl, List.contains_iff_mem.mp (am_and q2).1, of_decide_eq_true (am_and q2).2⟩))
  · cases h
noncomputable def ab_all2 {α β : Type} (f : α → β → Bool) : List α → List β → Bool
  | [], [] => true
  | x :: xs, y :: ys => f x y && ab_all2 f xs ys
  | _, _ => false
theorem ab_all2_s {α β : Type} {f : α → β → Bool} : ∀ {a : List α} {b : List β}, ab_all2 f a b = true → b.length = a.length ∧ ∀ (k : Nat) (x : α), a[k]? = some x → ∃ y, b[k]? = some y ∧ f x y = true
  | [], [], _ => ⟨rfl, fun k x h => by cases h⟩
  | x :: xs, y :: ys, h => by
    obtain ⟨h1, h2⟩ := ab_all2_s (am_and h).2
    refine ⟨by rw [List.length_cons, List.length_cons, h1], fun k z hz => ?_⟩
    cases k with
    | zero => cases hz; exact ⟨y, rfl, (am_and h).1⟩
    | succ k => exact h2 k z hz
  | [], _ :: _, h => by cases h
  | _ :: _, [], h => by cases h
noncomputable def ab_vCB (sets : List (List Nat)) (t : ab_C) (q : am_C) : Bool := match t, q with
  | .inl (0, n, lo, hi), .inl (.inl (0, l)) => Nat.beq l.length n && l.all (fun x => decide (lo ≤ x.toInt) && decide (x.toInt ≤ hi))
  | .inl (1, n, lo, hi), .inl (.inl (1, l)) => (decide (lo ≤ 0) && decide (1 ≤ hi)) && (Nat.beq l.length n && l.all (fun x => decide (lo ≤ x.toInt) && decide (x.toInt ≤ hi)))
  | .inl (2, n, lo, hi), .inl (.inr (.inl l)) => Nat.beq l.length n && l.all (fun x => decide (lo ≤ x.toInt) && decide (x.toInt ≤ hi))
  | .inl (9, _, _, _), _ => true
  | .inr (ci, ts), .inr (cj, fs) => Nat.beq ci cj && ab_all2 (ab_vFB sets) ts fs
  | _, _ => false
theorem ab_vCB_s {sets : List (List Nat)} {t : ab_C} {q : am_C} (h : ab_vCB sets t q = true) : ab_vC sets t q := by
  have L32 : ∀ {l : List Int32} {lo hi : Int}, l.all (fun x => decide (lo ≤ x.toInt) && decide (x.toInt ≤ hi)) = true → ∀ x ∈ l, lo ≤ x.toInt ∧ x.toInt ≤ hi := fun q x hx => by
    have := List.all_eq_true.mp q x hx
    exact ⟨of_decide_eq_true (am_and this).1, of_decide_eq_true (am_and this).2⟩
  have L64 : ∀ {l : List Int64} {lo hi : Int}, l.all (fun x => decide (lo ≤ x.toInt) && decide (x.toInt ≤ hi)) = true → ∀ x ∈ l, lo ≤ x.toInt ∧ x.toInt ≤ hi := fun q x hx => by
    have := List.all_eq_true.mp q x hx
    exact ⟨of_decide_eq_true (am_and this).1, of_decide_eq_true (am_and this).2⟩
  unfold ab_vCB at h
  split at h
  · obtain ⟨h1, h2⟩ := am_and h
    exact Or.inl ⟨rfl, _, rfl, Nat.eq_of_beq_eq_true h1, L32 h2⟩
  · obtain ⟨h0, h3⟩ := am_and h
    obtain ⟨h1, h2⟩ := am_and h3
    exact Or.inr (Or.inl ⟨rfl, of_decide_eq_true (am_and h0).1, of_decide_eq_true (am_and h0).2, _, rfl, Nat.eq_of_beq_eq_true h1, L32 h2⟩)
  · obtain ⟨h1, h2⟩ := am_and h
    exact Or.inr (Or.inr (Or.inl ⟨rfl, _, rfl, Nat.eq_of_beq_eq_true h1, L64 h2⟩))
  · exact Or.inr (Or.inr (Or.inr rfl))
  · obtain ⟨h1, h2⟩ := am_and h
    have e := Nat.eq_of_beq_eq_true h1
    subst e
    obtain ⟨g1, g2⟩ := ab_all2_s h2
    refine ⟨_, rfl, g1, fun k t ht => ?_⟩
    obtain ⟨v, v1, v2⟩ := g2 k t ht
    exact ⟨v, v1, ab_vFB_s v2⟩
  · cases h
theorem ab_inv_B {T : List ab_C} {sets : List (List Nat)} {w : am_W} (h : ab_all2 (ab_vCB sets) T w = true) : ab_inv T sets w := by
  obtain ⟨g1, g2⟩ := ab_all2_s h
  refine ⟨g1, fun a t ht => ?_⟩
  obtain ⟨v, v1, v2⟩ := g2 a t ht
  exact ⟨v, v1, ab_vCB_s v2⟩
set_option maxRecDepth 100000 in
theorem W0_inv : ab_inv ab_TT ab_sets am_W0 := ab_inv_B (by decide +kernel)
/-- what every call keeps -/
noncomputable def SI (w : am_W) : Prop := ab_inv ab_TT ab_sets w ∧ K14 w ∧ kOK w
set_option maxRecDepth 100000 in
theorem W0_SI : SI am_W0 := by
  refine ⟨W0_inv, rfl, fun n hn h => ?_⟩
  have : n = 0 ∨ n = 1 := by omega
  rcases this with rfl | rfl
  · exact absurd h (by decide)
  · exact absurd h (by decide)
theorem kOK.of {w w1 : am_W} (h : kOK w) (e1 : w1[87]? = w[87]?) (e2 : w1[88]? = w[88]?) : kOK w1 := by
  have a : ∀ j, rLi w1 87 j = rLi w 87 j := fun j => by unfold rLi am_rowl; rw [e1]
  have b : ∀ j, rI w1 88 j = rI w 88 j := fun j => by unfold rI am_row; rw [e2]
  intro n hn hk
  rw [b] at hk
  exact (h n hn hk).of fun j _ => a _
theorem SI.w2 {w w1 : am_W} (h : SI w) (J : ab_J ab_TT ab_sets ab_WR2 w w1) : SI w1 ∧ w1.length = w.length :=
  ⟨⟨J.1, h.2.1.of (J3_of J), h.2.2.of (fr_cell J.2 (by decide) (fun k z => by cases z)) (fr_cell J.2 (by decide) (fun k z => by cases z))⟩, by rw [J.1.1, h.1.1]⟩
theorem SI.w1 {w w1 : am_W} (h : SI w) (J : ab_J ab_TT ab_sets ab_WR w w1) : SI w1 ∧ w1.length = w.length := h.w2 (J2_of J)
theorem SI.w3 {w w1 : am_W} (h : SI w) (J : ab_J ab_TT ab_sets ab_WR3 w w1) (k : kOK w1) : SI w1 ∧ w1.length = w.length := ⟨⟨J.1, h.2.1.of J, k⟩, by rw [J.1.1, h.1.1]⟩
noncomputable def QI (w : am_W) : Option Value → am_W → Prop := fun r w1 => (SI w1 ∧ w1.length = w.length) ∧ ∃ b : Int32, r = some (.int b)
noncomputable def QIl (w : am_W) : Option Value → am_W → Prop := fun r w1 => (SI w1 ∧ w1.length = w.length) ∧ ∃ b : Int64, r = some (.long b)
