/-! ===== errands: orders ===== -/
/-- the first n digits, to base m -/
noncomputable def vl (m : Nat) (g : Nat → Nat) : Nat → Nat
  | 0 => 0
  | n + 1 => vl m g n * m + g n
theorem vl_cg {m : Nat} {g h : Nat → Nat} : ∀ {n : Nat}, (∀ i, i < n → g i = h i) → vl m g n = vl m h n
  | 0, _ => rfl
  | n + 1, e => by
    show vl m g n * m + g n = vl m h n * m + h n
    rw [vl_cg (n := n) (fun i hi => e i (by omega)), e n (by omega)]
theorem vl_lt {m : Nat} {g : Nat → Nat} : ∀ {n : Nat}, (∀ i, i < n → g i < m) → vl m g n < m ^ n
  | 0, _ => Nat.one_pos
  | n + 1, h => by
    have a := vl_lt (n := n) (fun i hi => h i (by omega))
    have b := h n (by omega)
    show vl m g n * m + g n < m ^ (n + 1)
    have c : (vl m g n + 1) * m ≤ m ^ n * m := Nat.mul_le_mul_right m a
    rw [Nat.pow_succ]
    rw [Nat.add_mul, Nat.one_mul] at c
    omega
theorem dm_un {m a b c d : Nat} (e : a * m + b = c * m + d) (hb : b < m) (hd : d < m) : a = c ∧ b = d := by
  have lt : ∀ {a b c d : Nat}, a * m + b = c * m + d → d < m → b < m → ¬ a < c := by
    intro a b c d e hd hb q
    have : (a + 1) * m ≤ c * m := Nat.mul_le_mul_right m q
    rw [Nat.add_mul, Nat.one_mul] at this
    omega
  have a1 := lt e hd hb
  have a2 := lt e.symm hb hd
  have a3 : a = c := by omega
  subst a3
  exact ⟨rfl, by omega⟩
theorem vl_un {m : Nat} {g h : Nat → Nat} : ∀ {n : Nat}, (∀ i, i < n → g i < m) → (∀ i, i < n → h i < m) → vl m g n = vl m h n → ∀ i, i < n → g i = h i
  | 0, _, _, _, i, hi => by omega
  | n + 1, a, b, e, i, hi => by
    obtain ⟨e1, e2⟩ := dm_un (show vl m g n * m + g n = vl m h n * m + h n from e) (a n (by omega)) (b n (by omega))
    by_cases q : i = n
    · rw [q]; exact e2
    · exact vl_un (fun i hi => a i (by omega)) (fun i hi => b i (by omega)) e1 i (by omega)
theorem vl_sp {m : Nat} {g : Nat → Nat} {d : Nat} : ∀ e, vl m g (d + e) = vl m g d * m ^ e + vl m (fun i => g (d + i)) e
  | 0 => by show vl m g d = vl m g d * m ^ 0 + 0; rw [Nat.pow_zero, Nat.mul_one, Nat.add_zero]
  | e + 1 => by
    show vl m g (d + e) * m + g (d + e) = vl m g d * m ^ (e + 1) + (vl m (fun i => g (d + i)) e * m + g (d + e))
    rw [vl_sp e, Nat.add_mul, Nat.pow_succ, Nat.mul_assoc]
    omega
/-- whose number lies in a block, begins with the block's digits -/
theorem vl_pre {m : Nat} {g : Nat → Nat} {d e x : Nat} (hg : ∀ i, i < d + e → g i < m) (h1 : x * m ^ e ≤ vl m g (d + e)) (h2 : vl m g (d + e) < (x + 1) * m ^ e) : vl m g d = x := by
  rw [vl_sp] at h1 h2
  have r : vl m (fun i => g (d + i)) e < m ^ e := vl_lt fun i hi => hg (d + i) (by omega)
  rcases Nat.lt_trichotomy (vl m g d) x with q | q | q
  · have : (vl m g d + 1) * m ^ e ≤ x * m ^ e := Nat.mul_le_mul_right _ q
    rw [Nat.add_mul, Nat.one_mul] at this
    omega
  · exact q
  · have : (x + 1) * m ^ e ≤ vl m g d * m ^ e := Nat.mul_le_mul_right _ q
    omega
/-- an order: each of the m comes -/
noncomputable def pmV (m : Nat) (g : Nat → Nat) : Prop := (∀ i, i < m → g i < m) ∧ ∀ q, q < m → ∃ i, i < m ∧ g i = q
noncomputable def usd (g : Nat → Nat) : Nat → Nat
  | 0 => 0
  | n + 1 => usd g n ||| 2 ^ g n
theorem usd_b {g : Nat → Nat} : ∀ {n q : Nat}, bt (usd g n) q = 1 ↔ ∃ i, i < n ∧ g i = q
  | 0, q => ⟨fun h => by rw [show usd g 0 = 0 from rfl, bt_z] at h; omega, fun ⟨i, h, _⟩ => by omega⟩
  | n + 1, q => by
    have ih := usd_b (g := g) (n := n) (q := q)
    have l := bt_le (usd g n) q
    show bt (usd g n ||| 2 ^ g n) q = 1 ↔ _
    rw [bt_or, bt_pow]
    by_cases e : g n = q
    · rw [if_pos e]
      exact ⟨fun _ => ⟨n, by omega, e⟩, fun _ => by omega⟩
    · rw [if_neg e]
      constructor
      · intro h
        obtain ⟨i, i1, i2⟩ := ih.mp (by omega)
        exact ⟨i, by omega, i2⟩
      · rintro ⟨i, i1, i2⟩
        have : i ≠ n := fun u => e (by rw [← u]; exact i2)
        have := ih.mpr ⟨i, by omega, i2⟩
        omega
theorem cnt_1 (x k : Nat) : ∀ n, cnt (x ||| 2 ^ k) n = cnt x n + (if k < n ∧ bt x k = 0 then 1 else 0)
  | 0 => by rw [if_neg (by omega)]; rfl
  | n + 1 => by
    rw [bt_s, bt_s, cnt_1 x k n, bt_or, bt_pow]
    have l := bt_le x n
    by_cases e : k = n
    · subst e
      rw [if_pos rfl, if_neg (by omega)]
      by_cases q : bt x k = 0
      · rw [if_pos ⟨by omega, q⟩]; omega
      · rw [if_neg (fun z => q z.2)]; omega
    · rw [if_neg e]
      by_cases q : k < n ∧ bt x k = 0
      · rw [if_pos q, if_pos ⟨by omega, q.2⟩]; omega
      · rw [if_neg q, if_neg (fun z => q ⟨by omega, z.2⟩)]; omega
theorem cnt_fu {x : Nat} : ∀ {n : Nat}, cnt x n = n ↔ ∀ q, q < n → bt x q = 1
  | 0 => ⟨fun _ q h => by omega, fun _ => rfl⟩
  | n + 1 => by
    have ih := cnt_fu (x := x) (n := n)
    have l := bt_le x n
    have c := cnt_le x n
    rw [bt_s]
    constructor
    · intro h q hq
      by_cases e : q = n
      · rw [e]; omega
      · exact ih.mp (by omega) q (by omega)
    · intro h
      have := ih.mpr fun q hq => h q (by omega)
      have := h n (by omega)
      omega
theorem usd_le (g : Nat → Nat) (m : Nat) : ∀ n, cnt (usd g n) m ≤ n
  | 0 => by show cnt 0 m ≤ 0; have : ∀ m, cnt 0 m = 0 := fun m => by
              induction m with
              | zero => rfl
              | succ m ih => rw [bt_s, ih, bt_z]
            rw [this]; exact Nat.le_refl _
  | n + 1 => by
    have := usd_le g m n
    show cnt (usd g n ||| 2 ^ g n) m ≤ n + 1
    rw [cnt_1]
    split <;> omega
/-- none comes twice in an order -/
theorem pm_inj {m : Nat} {g : Nat → Nat} (h : pmV m g) {i j : Nat} (hi : i < j) (hj : j < m) : g i ≠ g j := by
  intro e
  have key : ∀ n, j < n → cnt (usd g n) m + 1 ≤ n := by
    intro n
    induction n with
    | zero => intro q; omega
    | succ n ih =>
      intro q
      show cnt (usd g n ||| 2 ^ g n) m + 1 ≤ n + 1
      rw [cnt_1]
      by_cases u : n = j
      · have b : bt (usd g n) (g n) = 1 := usd_b.mpr ⟨i, by omega, by rw [u]; exact e⟩
        rw [if_neg (by omega)]
        have := usd_le g m n
        omega
      · have := ih (by omega)
        split <;> omega
  have a := key m hj
  have b := cnt_fu.mpr fun q hq => usd_b.mpr (h.2 q hq)
  omega
theorem pm_of {m : Nat} {g : Nat → Nat} (h1 : ∀ i, i < m → g i < m) (h2 : ∀ i j, i < j → j < m → g i ≠ g j) : pmV m g := by
  refine ⟨h1, fun q hq => usd_b.mp (cnt_fu.mp ?_ q hq)⟩
  have key : ∀ n, n ≤ m → cnt (usd g n) m = n := by
    intro n
    induction n with
    | zero =>
      intro _
      have := usd_le g m 0
      omega
    | succ n ih =>
      intro q
      show cnt (usd g n ||| 2 ^ g n) m = n + 1
      rw [cnt_1, ih (by omega)]
      have l := bt_le (usd g n) (g n)
      rw [if_pos ⟨h1 n (by omega), by
        apply Classical.byContradiction
        intro z
        obtain ⟨i, i1, i2⟩ := usd_b.mp (show bt (usd g n) (g n) = 1 by omega)
        exact h2 i n i1 (by omega) i2⟩]
  exact key m (Nat.le_refl _)
theorem pm_cg {m : Nat} {g h : Nat → Nat} (e : ∀ i, i < m → g i = h i) (p : pmV m g) : pmV m h := ⟨fun i hi => by rw [← e i hi]; exact p.1 i hi, fun q hq => by
  obtain ⟨i, i1, i2⟩ := p.2 q hq
  exact ⟨i, i1, by rw [← e i i1]; exact i2⟩⟩
noncomputable def pvo (m : Nat) (g : Nat → Nat) : Nat → Nat
  | 0 => m
  | k + 1 => g k
/-- strides of the first k legs -/
noncomputable def ss (m : Nat) (bw : Nat → Int) (g : Nat → Nat) : Nat → Int
  | 0 => 0
  | k + 1 => ss m bw g k + bw (6 * pvo m g k + g k)
noncomputable def SS (m : Nat) (bw : Nat → Int) (g : Nat → Nat) : Int := ss m bw g m + bw (6 * pvo m g m + m)
theorem pvo_cg {m : Nat} {g h : Nat → Nat} : ∀ {k : Nat}, (∀ i, i < k → g i = h i) → pvo m g k = pvo m h k
  | 0, _ => rfl
  | k + 1, e => e k (by omega)
theorem ss_cg {m : Nat} {bw : Nat → Int} {g h : Nat → Nat} : ∀ {k : Nat}, (∀ i, i < k → g i = h i) → ss m bw g k = ss m bw h k
  | 0, _ => rfl
  | k + 1, e => by
    show ss m bw g k + bw (6 * pvo m g k + g k) = ss m bw h k + bw (6 * pvo m h k + h k)
    rw [ss_cg (k := k) (fun i hi => e i (by omega)), pvo_cg (k := k) (fun i hi => e i (by omega)), e k (by omega)]
theorem SS_cg {m : Nat} {bw : Nat → Int} {g h : Nat → Nat} (e : ∀ i, i < m → g i = h i) : SS m bw g = SS m bw h := by
  unfold SS
  rw [ss_cg e, pvo_cg e]
theorem pvo_le {m : Nat} {g : Nat → Nat} (h : ∀ i, i < m → g i < m) : ∀ {k : Nat}, k ≤ m → pvo m g k ≤ m
  | 0, _ => Nat.le_refl _
  | k + 1, hk => by have := h k (by omega); show g k ≤ m; omega
theorem ss_eq {m : Nat} {a b : Nat → Int} {g : Nat → Nat} (h : ∀ i, i < m → g i < m) (e : ∀ i j, i ≤ m → j ≤ m → a (6 * i + j) = b (6 * i + j)) : ∀ {k : Nat}, k ≤ m → ss m a g k = ss m b g k
  | 0, _ => rfl
  | k + 1, hk => by
    show ss m a g k + a (6 * pvo m g k + g k) = ss m b g k + b (6 * pvo m g k + g k)
    have := h k (by omega)
    rw [ss_eq h e (k := k) (by omega), e _ _ (pvo_le h (by omega)) (by omega)]
theorem SS_eq {m : Nat} {a b : Nat → Int} {g : Nat → Nat} (h : ∀ i, i < m → g i < m) (e : ∀ i j, i ≤ m → j ≤ m → a (6 * i + j) = b (6 * i + j)) : SS m a g = SS m b g := by
  unfold SS
  rw [ss_eq h e (Nat.le_refl _), e _ _ (pvo_le h (Nat.le_refl _)) (Nat.le_refl _)]
theorem ss_b {m : Nat} {a : Nat → Int} {g : Nat → Nat} {B : Int} (h : ∀ i, i < m → g i < m) (e : ∀ i j, i ≤ m → j ≤ m → 0 ≤ a (6 * i + j) ∧ a (6 * i + j) ≤ B) : ∀ {k : Nat}, k ≤ m → 0 ≤ ss m a g k ∧ ss m a g k ≤ B * k
  | 0, _ => ⟨Int.le_refl _, by show (0 : Int) ≤ B * 0; omega⟩
  | k + 1, hk => by
    have i := ss_b h e (k := k) (by omega)
    have := h k (by omega)
    have c := e _ _ (pvo_le h (show k ≤ m by omega)) (show g k ≤ m by omega)
    refine ⟨by show 0 ≤ ss m a g k + a (6 * pvo m g k + g k); omega, ?_⟩
    show ss m a g k + a (6 * pvo m g k + g k) ≤ B * ((k + 1 : Nat) : Int)
    rw [show ((k + 1 : Nat) : Int) = (k : Int) + 1 by omega, Int.mul_add, Int.mul_one]
    omega
/-- a sum below B has no leg of B -/
theorem ss_leg {m : Nat} {a : Nat → Int} {g : Nat → Nat} {B : Int} (h : ∀ i, i < m → g i < m) (e : ∀ i j, i ≤ m → j ≤ m → 0 ≤ a (6 * i + j)) : ∀ {k : Nat}, k ≤ m → ss m a g k < B → (0 ≤ ss m a g k) ∧ ∀ i, i < k → a (6 * pvo m g i + g i) < B
  | 0, _, _ => ⟨Int.le_refl _, fun i hi => by omega⟩
  | k + 1, hk, hs => by
    have hs : ss m a g k + a (6 * pvo m g k + g k) < B := hs
    have := h k (by omega)
    have c := e _ _ (pvo_le h (show k ≤ m by omega)) (show g k ≤ m by omega)
    have z := (ss_leg (B := ss m a g k + 1) h e (k := k) (by omega) (by omega)).1
    obtain ⟨i1, i2⟩ := ss_leg (B := B) h e (k := k) (by omega) (by omega)
    refine ⟨by show 0 ≤ ss m a g k + a (6 * pvo m g k + g k); omega, fun i hi => ?_⟩
    by_cases q : i = k
    · rw [q]; omega
    · exact i2 i (by omega)
/-- the best of the orders whose number is below X; none is b0 -/
noncomputable def bsE (m : Nat) (bw : Nat → Int) (B b0 : Int) (X : Nat) (best : Int) (bo : Nat → Int) : Prop := (best = b0 ∧ ∀ g, pmV m g → vl m g m < X → B ≤ SS m bw g) ∨ ∃ g, pmV m g ∧ vl m g m < X ∧ SS m bw g < B ∧ best = SS m bw g ∧ (∀ i, i < m → bo i = g i) ∧ ∀ h, pmV m h → vl m h m < X → SS m bw g < SS m bw h ∨ (SS m bw g = SS m bw h ∧ vl m g m ≤ vl m h m)
theorem bsE.no {m : Nat} {bw : Nat → Int} {B b0 : Int} {X Y : Nat} {best : Int} {bo : Nat → Int} (h : bsE m bw B b0 X best bo) (hXY : X ≤ Y) (q : ∀ g, pmV m g → X ≤ vl m g m → vl m g m < Y → False) : bsE m bw B b0 Y best bo := by
  have red : ∀ g, pmV m g → vl m g m < Y → vl m g m < X := fun g p l => by
    apply Classical.byContradiction
    intro z
    exact q g p (by omega) l
  rcases h with ⟨h1, h2⟩ | ⟨g, h1, h2, h3, h4, h5, h6⟩
  · exact Or.inl ⟨h1, fun g p l => h2 g p (red g p l)⟩
  · exact Or.inr ⟨g, h1, by omega, h3, h4, h5, fun k p l => h6 k p (red k p l)⟩
theorem bsE.ye {m : Nat} {bw : Nat → Int} {B b0 : Int} {X : Nat} {best best' : Int} {bo bo' : Nat → Int} {g : Nat → Nat} (h : bsE m bw B b0 X best bo) (nb : ∀ f, pmV m f → SS m bw f < B → SS m bw f ≠ b0) (hg : pmV m g) (hX : vl m g m = X) (e : (best' = SS m bw g ∧ SS m bw g < B ∧ (best = b0 ∨ SS m bw g < best) ∧ ∀ i, i < m → bo' i = g i) ∨ (best' = best ∧ (B ≤ SS m bw g ∨ (best ≠ b0 ∧ best ≤ SS m bw g)) ∧ ∀ i, i < m → bo' i = bo i)) : bsE m bw B b0 (X + 1) best' bo' := by
  have same : ∀ k, pmV m k → vl m k m < X + 1 → ¬ vl m k m < X → SS m bw k = SS m bw g ∧ vl m k m = X := fun k p l n => by
    have e1 : vl m k m = vl m g m := by omega
    exact ⟨SS_cg (vl_un p.1 hg.1 e1), by omega⟩
  rcases e with ⟨e1, e2, e3, e4⟩ | ⟨e1, e2, e3⟩
  · refine Or.inr ⟨g, hg, by omega, e2, e1, e4, fun k p l => ?_⟩
    by_cases q : vl m k m < X
    · rcases h with ⟨h1, h2⟩ | ⟨f, h1, h2, h3, h4, h5, h6⟩
      · have := h2 k p q
        exact Or.inl (by omega)
      · have := h6 k p q
        rcases e3 with u | u
        · exact absurd (h4.symm.trans u) (nb f h1 h3)
        · exact Or.inl (by omega)
    · obtain ⟨s1, s2⟩ := same k p l q
      exact Or.inr ⟨s1.symm, by omega⟩
  · rcases h with ⟨h1, h2⟩ | ⟨f, h1, h2, h3, h4, h5, h6⟩
    · refine Or.inl ⟨by omega, fun k p l => ?_⟩
      by_cases q : vl m k m < X
      · exact h2 k p q
      · obtain ⟨s1, s2⟩ := same k p l q
        rw [s1]
        rcases e2 with u | u
        · exact u
        · exact absurd h1 u.1
    · refine Or.inr ⟨f, h1, by omega, h3, by omega, fun i hi => by rw [e3 i hi]; exact h5 i hi, fun k p l => ?_⟩
      by_cases q : vl m k m < X
      · exact h6 k p q
      · obtain ⟨s1, s2⟩ := same k p l q
        rw [s1]
        rcases e2 with u | u
        · exact Or.inl (by omega)
        · by_cases z : SS m bw f < SS m bw g
          · exact Or.inl z
          · exact Or.inr ⟨by omega, by omega⟩
noncomputable def opE (m : Nat) (bw : Nat → Int) (g : Nat → Nat) : Prop := pmV m g ∧ ∀ h, pmV m h → SS m bw g < SS m bw h ∨ (SS m bw g = SS m bw h ∧ vl m g m ≤ vl m h m)
theorem opE.uniq {m : Nat} {bw : Nat → Int} {g h : Nat → Nat} (a : opE m bw g) (b : opE m bw h) : SS m bw h = SS m bw g ∧ ∀ i, i < m → h i = g i := by
  have p := a.2 h b.1
  have q := b.2 g a.1
  exact ⟨by omega, vl_un b.1.1 a.1.1 (by omega)⟩
