/-! ===== what cells hold, as numbers ===== -/
noncomputable def rI (w : am_W) (p j : Nat) : Int := match (am_row w p)[j]? with
  | some x => x.toInt
  | none => 0
noncomputable def rL (w : am_W) (p j : Nat) : Nat := match (am_rowl w p)[j]? with
  | some x => n64 x
  | none => 0
noncomputable def fI (w : am_W) (p k : Nat) : Int := match am_fv w p k with
  | some (.int x) => x.toInt
  | _ => 0
noncomputable def fL (w : am_W) (p k : Nat) : Nat := match am_fv w p k with
  | some (.long x) => n64 x
  | _ => 0
/-- all but these cells are the same -/
noncomputable def only (ps : List Nat) (w w' : am_W) : Prop := ∀ q, q ∉ ps → w'[q]? = w[q]?
theorem only.rf {ps : List Nat} {w : am_W} : only ps w w := fun _ _ => rfl
theorem only.trans {ps : List Nat} {w w1 w2 : am_W} (h : only ps w w1) (h1 : only ps w1 w2) : only ps w w2 := fun q hq => (h1 q hq).trans (h q hq)
theorem only.sub {ps qs : List Nat} {w w1 : am_W} (h : only ps w w1) (hs : ∀ q, q ∈ ps → q ∈ qs) : only qs w w1 := fun q hq => h q (fun z => hq (hs q z))
theorem only.row {ps : List Nat} {w w1 : am_W} (h : only ps w w1) {p : Nat} (hp : p ∉ ps) : am_row w1 p = am_row w p := by unfold am_row; rw [h p hp]
theorem only.rowl {ps : List Nat} {w w1 : am_W} (h : only ps w w1) {p : Nat} (hp : p ∉ ps) : am_rowl w1 p = am_rowl w p := by unfold am_rowl; rw [h p hp]
theorem only.fv {ps : List Nat} {w w1 : am_W} (h : only ps w w1) {p k : Nat} (hp : p ∉ ps) : am_fv w1 p k = am_fv w p k := by unfold am_fv am_fs; rw [h p hp]
theorem only.rIe {ps : List Nat} {w w1 : am_W} (h : only ps w w1) {p j : Nat} (hp : p ∉ ps) : rI w1 p j = rI w p j := by unfold rI; rw [h.row hp]
theorem only.rLe {ps : List Nat} {w w1 : am_W} (h : only ps w w1) {p j : Nat} (hp : p ∉ ps) : rL w1 p j = rL w p j := by unfold rL; rw [h.rowl hp]
theorem only.fIe {ps : List Nat} {w w1 : am_W} (h : only ps w w1) {p k : Nat} (hp : p ∉ ps) : fI w1 p k = fI w p k := by unfold fI; rw [h.fv hp]
theorem only.fLe {ps : List Nat} {w w1 : am_W} (h : only ps w w1) {p k : Nat} (hp : p ∉ ps) : fL w1 p k = fL w p k := by unfold fL; rw [h.fv hp]
theorem only_set {w : am_W} {p : Nat} {c : am_C} : only [p] w (w.set p c) := fun q hq => by rw [List.getElem?_set_ne (fun e => hq (by rw [e]; exact List.mem_singleton.mpr rfl))]
theorem rI_of {w : am_W} {p j : Nat} {x : Int32} (h : (am_row w p)[j]? = some x) : rI w p j = x.toInt := by unfold rI; rw [h]
theorem rL_of {w : am_W} {p j : Nat} {x : Int64} (h : (am_rowl w p)[j]? = some x) : rL w p j = n64 x := by unfold rL; rw [h]
theorem fI_of {w : am_W} {p k : Nat} {x : Int32} (h : am_fv w p k = some (.int x)) : fI w p k = x.toInt := by unfold fI; rw [h]
theorem fL_of {w : am_W} {p k : Nat} {x : Int64} (h : am_fv w p k = some (.long x)) : fL w p k = n64 x := by unfold fL; rw [h]
section PIC
variable {T : List ab_C} {sets : List (List Nat)} {wr : ab_wT} {w w0 : am_W}
theorem row_len {p n : Nat} {lo hi : Int} (I : ab_inv T sets w) (hT : T[p]? = some (.inl (0, n, lo, hi))) : p < w.length ∧ (am_row w p).length = n ∧ ∀ x ∈ am_row w p, lo ≤ x.toInt ∧ x.toInt ≤ hi := by
  obtain ⟨q, w1, hq⟩ := I.2 _ _ hT
  rcases hq with ⟨-, l, rfl, f1, f2⟩ | ⟨h1, -⟩ | ⟨h1, -⟩ | h1
  · refine ⟨(List.getElem?_eq_some_iff.mp w1).1, ?_⟩
    unfold am_row
    rw [w1]
    exact ⟨f1, f2⟩
  all_goals cases h1
theorem rowl_len {p n : Nat} {lo hi : Int} (I : ab_inv T sets w) (hT : T[p]? = some (.inl (2, n, lo, hi))) : p < w.length ∧ (am_rowl w p).length = n ∧ ∀ x ∈ am_rowl w p, lo ≤ x.toInt ∧ x.toInt ≤ hi := by
  obtain ⟨q, w1, hq⟩ := I.2 _ _ hT
  rcases hq with ⟨h1, -⟩ | ⟨h1, -⟩ | ⟨-, l, rfl, f1, f2⟩ | h1
  · cases h1
  · cases h1
  · refine ⟨(List.getElem?_eq_some_iff.mp w1).1, ?_⟩
    unfold am_rowl
    rw [w1]
    exact ⟨f1, f2⟩
  · cases h1
theorem rI_in {p n j : Nat} {lo hi : Int} (I : ab_inv T sets w) (hT : T[p]? = some (.inl (0, n, lo, hi))) (hj : j < n) : lo ≤ rI w p j ∧ rI w p j ≤ hi := by
  obtain ⟨-, h1, h2⟩ := row_len I hT
  have hl : j < (am_row w p).length := by omega
  rw [rI_of (List.getElem?_eq_getElem hl)]
  exact h2 _ (List.getElem_mem hl)
theorem rL_in {p n j : Nat} (I : ab_inv T sets w) (hT : T[p]? = some (.inl (2, n, 0, 68719476735))) : rL w p j < 2 ^ 36 := by
  obtain ⟨-, h1, h2⟩ := rowl_len I hT
  by_cases hl : j < (am_rowl w p).length
  · rw [rL_of (List.getElem?_eq_getElem hl)]
    have := h2 _ (List.getElem_mem hl)
    exact n64_36 this.1 this.2
  · unfold rL
    rw [List.getElem?_eq_none (by omega)]
    decide
theorem fI_in {p ci k : Nat} {ts : List ab_F} {lo hi : Int} (I : ab_inv T sets w) (hT : T[p]? = some (.inr (ci, ts))) (ht : ts[k]? = some (0, lo, hi)) : lo ≤ fI w p k ∧ fI w p k ≤ hi := by
  obtain ⟨q, w1, fs, rfl, f1, f2⟩ := I.2 _ _ hT
  obtain ⟨v, f3, f4⟩ := f2 k _ ht
  have e : am_fv w p k = some v := by unfold am_fv am_fs; rw [w1]; exact f3
  rcases f4 with ⟨-, x, rfl, b1, b2⟩ | ⟨h1, -⟩ | ⟨h1, -⟩ | ⟨h1, -⟩
  · rw [fI_of e]; exact ⟨b1, b2⟩
  all_goals cases h1
/-- a row's cell is written -/
theorem rI_st {w2 : am_W} {p n j : Nat} {x : Int32} {lo hi : Int} (I : ab_inv T sets w) (hT : T[p]? = some (.inl (0, n, lo, hi))) (hj : j < n) (e : w2 = w.set p (.inl (.inl (0, (am_row w p).set j x)))) : only [p] w w2 ∧ rI w2 p j = x.toInt ∧ ∀ i, i ≠ j → rI w2 p i = rI w p i := by
  obtain ⟨h0, h1, -⟩ := row_len I hT
  subst e
  refine ⟨only_set, ?_, fun i hi => ?_⟩
  · unfold rI
    rw [am_row_eq h0, List.getElem?_set_self (by omega)]
  · unfold rI
    rw [am_row_eq h0, List.getElem?_set_ne (fun e => hi e.symm)]
theorem rL_st {w2 : am_W} {p n j : Nat} {x : Int64} {lo hi : Int} (I : ab_inv T sets w) (hT : T[p]? = some (.inl (2, n, lo, hi))) (hj : j < n) (e : w2 = w.set p (.inl (.inr (.inl ((am_rowl w p).set j x))))) : only [p] w w2 ∧ rL w2 p j = n64 x ∧ ∀ i, i ≠ j → rL w2 p i = rL w p i := by
  obtain ⟨h0, h1, -⟩ := rowl_len I hT
  subst e
  refine ⟨only_set, ?_, fun i hi => ?_⟩
  · unfold rL
    rw [am_rowl_eq h0, List.getElem?_set_self (by omega)]
  · unfold rL
    rw [am_rowl_eq h0, List.getElem?_set_ne (fun e => hi e.symm)]
end PIC
/-! bits -/
theorem bt_or (a b j : Nat) : bt (a ||| b) j = max (bt a j) (bt b j) := by
  unfold bt
  rw [Nat.testBit_or]
  cases a.testBit j <;> cases b.testBit j <;> rfl
theorem bt_pow (m j : Nat) : bt (2 ^ m) j = if m = j then 1 else 0 := by
  unfold bt
  rw [Nat.testBit_two_pow]
  by_cases h : m = j <;> simp [h]
theorem bt_z (j : Nat) : bt 0 j = 0 := by unfold bt; rw [Nat.zero_testBit]; rfl
theorem bt_and (a b j : Nat) : bt (a &&& b) j = min (bt a j) (bt b j) := by
  unfold bt
  rw [Nat.testBit_and]
  cases a.testBit j <;> cases b.testBit j <;> rfl
theorem n64_xor (x y : Int64) : n64 (x ^^^ y) = n64 x ^^^ n64 y := by unfold n64; rw [Int64.toBitVec_xor, BitVec.toNat_xor]
theorem bt_not {x y : Int64} (hy : y.toInt = -1) {j : Nat} (hj : j < 64) : bt (n64 (x ^^^ y)) j = 1 - bt (n64 x) j := by
  have e : n64 y = 2 ^ 64 - 1 := by
    have : y = -1 := Int64.toInt_inj.mp (by rw [hy]; rfl)
    rw [this]
    rfl
  unfold bt
  rw [n64_xor, e, Nat.testBit_xor, Nat.testBit_two_pow_sub_one]
  simp only [hj, decide_true]
  cases (n64 x).testBit j <;> rfl
theorem bt_eq {a b : Nat} (h : ∀ j, bt a j = bt b j) : a = b := by
  apply Nat.eq_of_testBit_eq
  intro j
  have := h j
  unfold bt at this
  revert this
  cases a.testBit j <;> cases b.testBit j <;> decide
theorem bt_some {a : Nat} (h : a ≠ 0) : ∃ j, bt a j = 1 := by
  apply Classical.byContradiction
  intro q
  apply h
  apply bt_eq
  intro j
  rw [bt_z]
  have := bt_le a j
  have : bt a j ≠ 1 := fun e => q ⟨j, e⟩
  omega
theorem cnt_sub {a b : Nat} (h : ∀ j, bt a j ≤ bt b j) : ∀ m, cnt a m ≤ cnt b m
  | 0 => Nat.le_refl _
  | m + 1 => by
    have := cnt_sub h m
    have := h m
    rw [bt_s, bt_s]
    omega
theorem cnt_lt {a b : Nat} (h : ∀ j, bt a j ≤ bt b j) {i : Nat} (hi : bt a i < bt b i) : ∀ m, i < m → cnt a m < cnt b m
  | 0, hm => by omega
  | m + 1, hm => by
    have h1 := h m
    rw [bt_s, bt_s]
    by_cases q : i = m
    · subst q
      have := cnt_sub h i
      omega
    · have := cnt_lt h hi m (by omega)
      omega
/-! ===== the model's size ===== -/
theorem m6 {x y : Int} (h1 : 1 ≤ x) (h2 : x ≤ 6) (h3 : 1 ≤ y) (h4 : y ≤ 6) : 1 ≤ x * y ∧ x * y ≤ 36 := by
  have : x = 1 ∨ x = 2 ∨ x = 3 ∨ x = 4 ∨ x = 5 ∨ x = 6 := by omega
  rcases this with rfl | rfl | rfl | rfl | rfl | rfl <;> omega
noncomputable def szM (w : am_W) : Int := fI w 65 0 * fI w 65 1
theorem szM_in {w : am_W} (I : ab_inv ab_TT ab_sets w) : 1 ≤ szM w ∧ szM w ≤ 36 := by
  have h1 := fI_in (p := 65) (k := 0) I rfl rfl
  have h2 := fI_in (p := 65) (k := 1) I rfl rfl
  exact m6 h1.1 h1.2 h2.1 h2.2
theorem only.sz {ps : List Nat} {w w1 : am_W} (h : only ps w w1) (hp : 65 ∉ ps) : szM w1 = szM w := by unfold szM; rw [h.fIe hp, h.fIe hp]
