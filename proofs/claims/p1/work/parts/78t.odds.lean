/-! ===== after, ways, chance ===== -/
noncomputable def smT (g : Nat → Nat) : Nat → Nat
  | 0 => 0
  | k + 1 => smT g k + g k
theorem smT_eq {g h : Nat → Nat} : ∀ {k : Nat}, (∀ c, c < k → g c = h c) → smT g k = smT h k
  | 0, _ => rfl
  | k + 1, q => by
    show smT g k + g k = smT h k + h k
    rw [smT_eq (k := k) fun c hc => q c (by omega), q k (by omega)]
theorem smT_le {g h : Nat → Nat} : ∀ {k : Nat}, (∀ c, c < k → g c ≤ h c) → smT g k ≤ smT h k
  | 0, _ => Nat.le_refl _
  | k + 1, q => Nat.add_le_add (smT_le (k := k) fun c hc => q c (by omega)) (q k (by omega))
theorem smT_1 {g : Nat → Nat} : ∀ {k c : Nat}, c < k → g c ≤ smT g k
  | 0, c, h => by omega
  | k + 1, c, h => by
    show g c ≤ smT g k + g k
    by_cases e : c = k
    · rw [e]; omega
    · have := smT_1 (g := g) (k := k) (c := c) (by omega)
      omega
theorem smT_p {g : Nat → Nat} : ∀ {k : Nat}, 0 < smT g k ↔ ∃ c, c < k ∧ 0 < g c
  | 0 => ⟨fun h => absurd h (Nat.lt_irrefl 0), fun ⟨c, h, _⟩ => absurd h (Nat.not_lt_zero c)⟩
  | k + 1 => by
    have ih := smT_p (g := g) (k := k)
    show 0 < smT g k + g k ↔ _
    constructor
    · intro h
      by_cases e : 0 < g k
      · exact ⟨k, Nat.lt_succ_self k, e⟩
      · have h2 : 0 < smT g k := by omega
        obtain ⟨c, c1, c2⟩ := ih.mp h2
        exact ⟨c, Nat.lt_succ_of_lt c1, c2⟩
    · rintro ⟨c, c1, c2⟩
      have := smT_1 (g := g) (k := k + 1) (c := c) c1
      exact Nat.lt_of_lt_of_le c2 this
theorem smT_ad {g h : Nat → Nat} : ∀ k : Nat, smT (fun c => g c + h c) k = smT g k + smT h k
  | 0 => rfl
  | k + 1 => by
    show smT (fun c => g c + h c) k + (g k + h k) = smT g k + g k + (smT h k + h k)
    rw [smT_ad k]
    omega
theorem smT_k (a : Nat) : ∀ k : Nat, smT (fun _ => a) k = k * a
  | 0 => by show 0 = 0 * a; rw [Nat.zero_mul]
  | k + 1 => by show smT (fun _ => a) k + a = (k + 1) * a; rw [smT_k a k, Nat.add_mul, Nat.one_mul]
theorem smT_sw {F : Nat → Nat → Nat} (m : Nat) : ∀ k : Nat, smT (fun d => smT (fun c => F c d) m) k = smT (fun c => smT (fun d => F c d) k) m
  | 0 => by show 0 = smT (fun _ => 0) m; rw [smT_k, Nat.mul_zero]
  | k + 1 => by
    show smT (fun d => smT (fun c => F c d) m) k + smT (fun c => F c k) m = smT (fun c => smT (fun d => F c d) k + F c k) m
    rw [smT_sw m k, smT_ad]
theorem smT_ml {g : Nat → Nat} (a : Nat) : ∀ k : Nat, smT (fun c => g c * a) k = smT g k * a
  | 0 => by show 0 = 0 * a; rw [Nat.zero_mul]
  | k + 1 => by
    show smT (fun c => g c * a) k + g k * a = (smT g k + g k) * a
    rw [smT_ml a k, Nat.add_mul]
theorem smT_ct (x : Nat) : ∀ k : Nat, smT (fun c => bt x c) k = cnt x k
  | 0 => rfl
  | k + 1 => by
    show smT (fun c => bt x c) k + bt x k = cnt x k + bt x k
    rw [smT_ct x k]
theorem cnt_mn (x : Nat) {a : Nat} : ∀ b : Nat, cnt x a ≤ cnt x (a + b)
  | 0 => Nat.le_refl _
  | b + 1 => by
    have := cnt_mn x (a := a) b
    show cnt x a ≤ cnt x (a + b) + bt x (a + b)
    omega
theorem cnt_nz {x : Nat} (h : x ≠ 0) (hx : x < 2 ^ 64) : 0 < cnt x 64 := by
  obtain ⟨j, hj⟩ := bt_some h
  have j64 : j < 64 := by
    apply Classical.byContradiction
    intro q
    rw [bt_hi hx (by omega)] at hj
    omega
  rw [← smT_ct]
  have := smT_1 (g := fun c => bt x c) (k := 64) (c := j) j64
  have e : (fun c => bt x c) j = bt x j := rfl
  omega
noncomputable def wyT (l : Nat → Nat) (z f : Nat) : Nat → Nat → Nat
  | 0, d => if d = f then 1 else 0
  | n + 1, d => smT (fun c => bt (l c) d * wyT l z f n c) z
noncomputable def chT (l : Nat → Nat) (z f a : Nat) : Nat → Nat → Nat
  | 0, d => if d = f then a else 0
  | n + 1, d => (if l d = 0 then chT l z f a n d else 0) + smT (fun c => bt (l c) d * (chT l z f a n c / cnt (l c) 64)) z
section OD
variable {l l2 : Nat → Nat} {z f a : Nat}
theorem wyT_eq (h : ∀ c, c < z → l2 c = l c) : ∀ n d : Nat, wyT l2 z f n d = wyT l z f n d
  | 0, d => rfl
  | n + 1, d => by
    show smT (fun c => bt (l2 c) d * wyT l2 z f n c) z = smT (fun c => bt (l c) d * wyT l z f n c) z
    exact smT_eq fun c hc => by
      show bt (l2 c) d * wyT l2 z f n c = bt (l c) d * wyT l z f n c
      rw [h c hc, wyT_eq h n c]
theorem chT_eq (h : ∀ c, c < z → l2 c = l c) : ∀ n d : Nat, d < z → chT l2 z f a n d = chT l z f a n d
  | 0, d, _ => rfl
  | n + 1, d, hd => by
    show (if l2 d = 0 then chT l2 z f a n d else 0) + smT (fun c => bt (l2 c) d * (chT l2 z f a n c / cnt (l2 c) 64)) z = (if l d = 0 then chT l z f a n d else 0) + smT (fun c => bt (l c) d * (chT l z f a n c / cnt (l c) 64)) z
    have e : smT (fun c => bt (l2 c) d * (chT l2 z f a n c / cnt (l2 c) 64)) z = smT (fun c => bt (l c) d * (chT l z f a n c / cnt (l c) 64)) z := smT_eq fun c hc => by
      show bt (l2 c) d * (chT l2 z f a n c / cnt (l2 c) 64) = bt (l c) d * (chT l z f a n c / cnt (l c) 64)
      rw [h c hc, chT_eq h n c hc]
    rw [e, h d hd, chT_eq h n d hd]
theorem wyT_le (hz : z ≤ 36) : ∀ n d : Nat, wyT l z f n d ≤ 36 ^ n
  | 0, d => by show (if d = f then 1 else 0) ≤ 1; split <;> omega
  | n + 1, d => by
    have h1 : smT (fun c => bt (l c) d * wyT l z f n c) z ≤ smT (fun _ => 36 ^ n) z := smT_le fun c _ => by
      show bt (l c) d * wyT l z f n c ≤ 36 ^ n
      have b := Nat.mul_le_mul_right (wyT l z f n c) (bt_le (l c) d)
      rw [Nat.one_mul] at b
      exact Nat.le_trans b (wyT_le hz n c)
    rw [smT_k] at h1
    show smT (fun c => bt (l c) d * wyT l z f n c) z ≤ 36 ^ (n + 1)
    rw [Nat.pow_succ, Nat.mul_comm (36 ^ n) 36]
    exact Nat.le_trans h1 (Nat.mul_le_mul_right _ hz)
theorem wyT_63 (hz : z ≤ 36) {n : Nat} (hn : n ≤ 12) (d : Nat) : wyT l z f n d < 9223372036854775808 := by
  have h1 := wyT_le (l := l) (f := f) hz n d
  have h2 : 36 ^ n ≤ 36 ^ 12 := Nat.pow_le_pow_right (by decide) hn
  have h3 : 36 ^ 12 < 9223372036854775808 := by decide
  exact Nat.lt_of_le_of_lt (Nat.le_trans h1 h2) h3
theorem smT_at : ∀ k : Nat, smT (fun d => if d = f then a else 0) k ≤ a ∧ (k ≤ f → smT (fun d => if d = f then a else 0) k = 0)
  | 0 => ⟨Nat.zero_le _, fun _ => rfl⟩
  | k + 1 => by
    obtain ⟨h1, h2⟩ := smT_at k
    show smT (fun d => if d = f then a else 0) k + (if k = f then a else 0) ≤ a ∧ (k + 1 ≤ f → smT (fun d => if d = f then a else 0) k + (if k = f then a else 0) = 0)
    by_cases e : k = f
    · rw [if_pos e, h2 (by omega)]
      exact ⟨by omega, fun q => by omega⟩
    · rw [if_neg e]
      exact ⟨h1, fun q => h2 (by omega)⟩
theorem chT_sm (hz : z ≤ 64) : ∀ n : Nat, smT (fun d => chT l z f a n d) z ≤ a
  | 0 => (smT_at z).1
  | n + 1 => by
    have ih := chT_sm hz n
    show smT (fun d => (if l d = 0 then chT l z f a n d else 0) + smT (fun c => bt (l c) d * (chT l z f a n c / cnt (l c) 64)) z) z ≤ a
    rw [smT_ad, smT_sw (F := fun c d => bt (l c) d * (chT l z f a n c / cnt (l c) 64)), ← smT_ad]
    refine Nat.le_trans (smT_le fun c hc => ?_) ih
    show (if l c = 0 then chT l z f a n c else 0) + smT (fun d => bt (l c) d * (chT l z f a n c / cnt (l c) 64)) z ≤ chT l z f a n c
    rw [smT_ml, smT_ct]
    by_cases e : l c = 0
    · have z0 : cnt (l c) z = 0 := by
        rw [e, ← smT_ct]
        rw [smT_eq (h := fun _ => 0) fun c _ => bt_z c, smT_k, Nat.mul_zero]
      rw [if_pos e, z0, Nat.zero_mul]
      exact Nat.le_refl _
    · rw [if_neg e, Nat.zero_add]
      have m := cnt_mn (l c) (a := z) (64 - z)
      rw [show z + (64 - z) = 64 by omega] at m
      exact Nat.le_trans (Nat.mul_le_mul_right _ m) (Nat.mul_div_le _ _)
theorem chT_a (hz : z ≤ 64) (n : Nat) {d : Nat} (hd : d < z) : chT l z f a n d ≤ a := Nat.le_trans (smT_1 (g := fun d => chT l z f a n d) hd) (chT_sm hz n)
end OD
/-- one stride by lot, as far as cell i -/
noncomputable def ltT (l W : Nat → Nat) (e i : Nat) : Nat := (if l e = 0 ∧ e < i then W e else 0) + smT (fun c => bt (l c) e * (W c / cnt (l c) 64)) i
section LT
variable {l W : Nat → Nat} {e i : Nat}
theorem ltT_0 : ltT l W e 0 = 0 := by
  unfold ltT
  rw [if_neg (fun q => absurd q.2 (Nat.not_lt_zero e))]
  rfl
theorem ltT_z (h : l i = 0) : ltT l W e (i + 1) = ltT l W e i + (if e = i then W i else 0) := by
  unfold ltT
  show _ + (smT (fun c => bt (l c) e * (W c / cnt (l c) 64)) i + bt (l i) e * (W i / cnt (l i) 64)) = _
  rw [h, bt_z, Nat.zero_mul]
  by_cases q : e = i
  · subst q
    rw [if_pos ⟨h, by omega⟩, if_neg (by omega), if_pos rfl]
    omega
  · rw [if_neg q]
    by_cases p : l e = 0 ∧ e < i
    · rw [if_pos p, if_pos ⟨p.1, by omega⟩]; omega
    · rw [if_neg p, if_neg (fun u => p ⟨u.1, by omega⟩)]; omega
theorem ltT_h (h : l i ≠ 0) : ltT l W e (i + 1) = ltT l W e i + bt (l i) e * (W i / cnt (l i) 64) := by
  unfold ltT
  show _ + (smT (fun c => bt (l c) e * (W c / cnt (l c) 64)) i + bt (l i) e * (W i / cnt (l i) 64)) = _
  by_cases p : l e = 0 ∧ e < i
  · rw [if_pos p, if_pos ⟨p.1, by omega⟩]
    omega
  · rw [if_neg p, if_neg (fun u => p ⟨u.1, by
      have : e ≠ i := fun q => h (by rw [← q]; exact u.1)
      omega⟩)]
    omega
end LT
/-- Euclid's steps -/
noncomputable def efT : Nat → Nat → Nat → Prop
  | 0, _, y => y = 0
  | k + 1, x, y => y = 0 ∨ efT k y (x % y)
theorem efT_of : ∀ (m x y : Nat), y < 2 ^ m → efT (2 * m) x y
  | 0, x, y, h => by
    have : (2 : Nat) ^ 0 = 1 := rfl
    show y = 0
    omega
  | m + 1, x, y, h => by
    rw [show 2 * (m + 1) = 2 * m + 1 + 1 by omega]
    show y = 0 ∨ (x % y = 0 ∨ efT (2 * m) (x % y) (y % (x % y)))
    by_cases e : y = 0
    · exact Or.inl e
    · refine Or.inr ?_
      by_cases e2 : x % y = 0
      · exact Or.inl e2
      · refine Or.inr (efT_of m _ _ ?_)
        have r1 : x % y < y := Nat.mod_lt _ (by omega)
        have r2 : y % (x % y) < x % y := Nat.mod_lt _ (by omega)
        have r3 := Nat.mod_add_div y (x % y)
        have r4 : 1 ≤ y / (x % y) := Nat.div_pos (by omega) (by omega)
        have r5 : x % y * 1 ≤ x % y * (y / (x % y)) := Nat.mul_le_mul_left _ r4
        rw [Nat.mul_one] at r5
        rw [Nat.pow_succ] at h
        omega
theorem efT_s {k x y : Nat} (h : efT k x y) (hy : y ≠ 0) : ∃ j, k = j + 1 ∧ efT j y (x % y) := by
  cases k with
  | zero => exact absurd h hy
  | succ k =>
    rcases h with h | h
    · exact absurd h hy
    · exact ⟨k, rfl, h⟩
theorem n64_addm (x y : Int64) : n64 (x + y) = (n64 x + n64 y) % 18446744073709551616 := by unfold n64; rw [Int64.toBitVec_add, BitVec.toNat_add]
theorem n64_mulm (x y : Int64) : n64 (x * y) = (n64 x * n64 y) % 18446744073709551616 := by unfold n64; rw [Int64.toBitVec_mul, BitVec.toNat_mul]
theorem n64_rem {x y : Int64} (hx : 0 ≤ x.toInt) (hy : 0 < y.toInt) : n64 (x - x / y * y) = n64 x % n64 y ∧ 0 ≤ (x - x / y * y).toInt := by
  have e := l_rem (x := x) (y := y) (by omega)
  rw [Int.tmod_eq_emod_of_nonneg hx] at e
  have r0 : 0 ≤ x.toInt % y.toInt := Int.emod_nonneg _ (by omega)
  have a := (n64_of hx).1
  have b := (n64_of (x := y) (by omega)).1
  have c := (n64_of (x := x - x / y * y) (by omega)).1
  have u : ((n64 x % n64 y : Nat) : Int) = (n64 x : Int) % (n64 y : Int) := rfl
  rw [a, b, ← e] at u
  omega
theorem n64_div {x y : Int64} (hx : 0 ≤ x.toInt) (hy : 0 < y.toInt) : n64 (x / y) = n64 x / n64 y ∧ 0 ≤ (x / y).toInt := by
  have e : (x / y).toInt = x.toInt / y.toInt := by
    rw [Int64.toInt_div_of_ne_right x y (fun q => by
      have : y.toInt = -1 := by rw [q]; decide
      omega), Int.tdiv_eq_ediv_of_nonneg hx]
  have r0 : 0 ≤ x.toInt / y.toInt := Int.ediv_nonneg hx (by omega)
  have a := (n64_of hx).1
  have b := (n64_of (x := y) (by omega)).1
  have c := (n64_of (x := x / y) (by omega)).1
  have u : ((n64 x / n64 y : Nat) : Int) = (n64 x : Int) / (n64 y : Int) := rfl
  rw [a, b, ← e] at u
  omega
theorem rL_lto (w : am_W) (p j : Nat) : rL w p j < 18446744073709551616 := by
  unfold rL
  split
  · exact n64_lt _
  · decide
theorem s_gk {d k : Nat} {Q : Option Value → am_W → Prop} {pc : Nat} {ls : am_L} {st : List Value} {w w0 : am_W} {len : Nat} {T : List ab_C} {sets : List (List Nat)} {wr : ab_wT} {idx p ci kf q : Nat} {ts : List ab_F} {ft : ab_F} (hJ : ab_J T sets wr w0 w) (u : Nat) (hf : am_find (am_code k) pc = some (.getfield idx, len)) (hu : pc + 3 = u) (hfl : am_find (am_fldT (am_mi k).1) idx = some (ci, kf)) (hT : T[p]? = some (.inr (ci, ts))) (hp : Nat.blt p am_B = true) (ht : ts[kf]? = some ft) (hv : am_fv w p kf = some (.ref q)) (h : aw none d k Q (u, ls, .ref q :: st) w) : aw none d k Q (pc, ls, .ref p :: st) w := by
  refine s_g hJ u hf hu hfl hT hp ht fun v _ e => ?_
  rw [hv] at e
  cases e
  exact h
theorem s_alL {d k : Nat} {Q : Option Value → am_W → Prop} {pc : Nat} {ls : am_L} {st : List Value} {w w0 : am_W} {len : Nat} {T : List ab_C} {sets : List (List Nat)} {wr : ab_wT} {p n : Nat} {lo hi : Int} (hJ : ab_J T sets wr w0 w) (u : Nat) (hf : am_find (am_code k) pc = some (.arraylength, len)) (hu : pc + 1 = u) (hT : T[p]? = some (.inl (2, n, lo, hi))) (hn : n < 2147483648) (h : ∀ x : Int32, x.toInt = n → aw none d k Q (u, ls, .int x :: st) w) : aw none d k Q (pc, ls, .ref p :: st) w := by
  subst hu
  obtain ⟨q, w1, hq⟩ := hJ.1.2 _ _ hT
  rcases hq with ⟨h1, -⟩ | ⟨h1, -⟩ | ⟨-, l, rfl, f1, f2⟩ | h1
  · cases h1
  · cases h1
  · refine aw_step hf (f1 := (pc + 1, ls, .int (Int32.ofNat l.length) :: st)) (w1 := w) ?_ (h _ (by rw [f1]; exact Int32.toInt_ofNat_of_lt (by omega)))
    show am_alen none (pc + 1) ls (.ref p :: st) w = _
    unfold am_alen
    simp only
    rw [w1]
    rfl
  · cases h1
noncomputable def odW (w : am_W) (a b : Nat) : Prop := am_fv w 30 0 = some (.ref a) ∧ am_fv w 30 1 = some (.ref b)
noncomputable def odA (w : am_W) : Prop := odW w 31 32 ∨ odW w 32 31
noncomputable def odV (w : am_W) (g : Nat → Nat) (Z : Nat) : Prop := (odW w 31 32 ∧ ∀ c : Nat, c < Z → rL w 31 c = g c) ∨ (odW w 32 31 ∧ ∀ c : Nat, c < Z → rL w 32 c = g c)
noncomputable def lV (V : Nat → Int) (L : Int) (l : Nat → Nat) : Prop := ∀ c : Nat, (c : Int) < szV V → lsV V L c (l c)
theorem lV.uniq {V : Nat → Int} {L : Int} {l m : Nat → Nat} (h : lV V L l) (g : lV V L m) {c : Nat} (hc : (c : Int) < szV V) : m c = l c := by
  apply Nat.eq_of_testBit_eq
  intro j
  have a := h c hc j
  have b := g c hc j
  have e : bt (m c) j = 1 ↔ bt (l c) j = 1 := b.trans a.symm
  unfold bt at e
  cases x : (m c).testBit j <;> cases y : (l c).testBit j <;> rw [x, y] at e
  · exact absurd (e.mpr rfl) (by decide)
  · exact absurd (e.mp rfl) (by decide)
noncomputable def alV (V : Nat → Int) : Prop := ∀ c : Nat, (c : Int) < szV V → V (40 + c) ≠ 126
/-- one can be there behind n strides -/
noncomputable def rnV (V : Nat → Int) (L : Int) (f : Nat) : Nat → Nat → Prop
  | 0, j => j = f
  | n + 1, j => ∃ c : Nat, (c : Int) < szV V ∧ rnV V L f n c ∧ eV V L c j
theorem wyT_rn {V : Nat → Int} {L : Int} {l : Nat → Nat} {f : Nat} (h : lV V L l) : ∀ (n j : Nat), 0 < wyT l (szV V).toNat f n j ↔ rnV V L f n j
  | 0, j => by
    show 0 < (if j = f then 1 else 0) ↔ j = f
    by_cases e : j = f
    · rw [if_pos e]; exact ⟨fun _ => e, fun _ => by decide⟩
    · rw [if_neg e]; exact ⟨fun q => absurd q (by decide), fun q => absurd q e⟩
  | n + 1, j => by
    have ih := wyT_rn (f := f) h n
    show 0 < smT (fun c => bt (l c) j * wyT l (szV V).toNat f n c) (szV V).toNat ↔ ∃ c : Nat, (c : Int) < szV V ∧ rnV V L f n c ∧ eV V L c j
    rw [smT_p]
    constructor
    · rintro ⟨c, c1, c2⟩
      have c2 : 0 < bt (l c) j * wyT l (szV V).toNat f n c := c2
      have p1 : bt (l c) j ≠ 0 := fun q => by rw [q, Nat.zero_mul] at c2; exact absurd c2 (by decide)
      have p2 : wyT l (szV V).toNat f n c ≠ 0 := fun q => by rw [q, Nat.mul_zero] at c2; exact absurd c2 (by decide)
      have p3 := bt_le (l c) j
      have cs : (c : Int) < szV V := by omega
      exact ⟨c, cs, (ih c).mp (by omega), (lsV_e (h c cs) j).mp (by omega)⟩
    · rintro ⟨c, c1, c2, c3⟩
      refine ⟨c, by omega, ?_⟩
      show 0 < bt (l c) j * wyT l (szV V).toNat f n c
      rw [(lsV_e (h c c1) j).mpr c3, Nat.one_mul]
      exact (ih c).mpr c2
noncomputable def aftX (V : Nat → Int) (L : Int) (f n : Nat) (z : Int) : Prop := ∃ s : Nat, z = (s : Int) ∧ ∀ j, bt s j = 1 ↔ (j : Int) < szV V ∧ rnV V L f n j
noncomputable def wayX (V : Nat → Int) (L : Int) (f t n : Nat) (z : Int) : Prop := ∃ l, lV V L l ∧ z = ((wyT l (szV V).toNat f n t : Nat) : Int)
noncomputable def chaX (V : Nat → Int) (L : Int) (f t n : Nat) (p z : Int) : Prop := ∃ l, lV V L l ∧ z = (((if p = 0 then chT l (szV V).toNat f (840 ^ n) n t else 840 ^ n) / Nat.gcd (chT l (szV V).toNat f (840 ^ n) n t) (840 ^ n) : Nat) : Int)
noncomputable def aftP (V : Nat → Int) (b f n z : Int) : Prop := (z = -1000000000000000001 ∧ ((b < 0 ∨ 3 < b) ∨ (f < 0 ∨ szV V ≤ f))) ∨ (z = -1000000000000000002 ∧ ((0 ≤ b ∧ b ≤ 3) ∧ (0 ≤ f ∧ f < szV V)) ∧ (n < 0 ∨ 12 < n)) ∨ (((0 ≤ b ∧ b ≤ 3) ∧ (0 ≤ f ∧ f < szV V)) ∧ (0 ≤ n ∧ n ≤ 12) ∧ aftX V (V (8 + 4 * b.toNat + 0)) f.toNat n.toNat z)
noncomputable def wayP (V : Nat → Int) (b f t n z : Int) : Prop := (z = -1000000000000000001 ∧ ((b < 0 ∨ 3 < b) ∨ (f < 0 ∨ szV V ≤ f) ∨ (t < 0 ∨ szV V ≤ t))) ∨ (z = -1000000000000000002 ∧ ((0 ≤ b ∧ b ≤ 3) ∧ (0 ≤ f ∧ f < szV V) ∧ (0 ≤ t ∧ t < szV V)) ∧ (n < 0 ∨ 12 < n)) ∨ (((0 ≤ b ∧ b ≤ 3) ∧ (0 ≤ f ∧ f < szV V) ∧ (0 ≤ t ∧ t < szV V)) ∧ (0 ≤ n ∧ n ≤ 12) ∧ wayX V (V (8 + 4 * b.toNat + 0)) f.toNat t.toNat n.toNat z)
noncomputable def chcP (V : Nat → Int) (b f t n p z : Int) : Prop := (z = -1000000000000000001 ∧ ((b < 0 ∨ 3 < b) ∨ (f < 0 ∨ szV V ≤ f) ∨ (t < 0 ∨ szV V ≤ t))) ∨ (z = -1000000000000000002 ∧ ((0 ≤ b ∧ b ≤ 3) ∧ (0 ≤ f ∧ f < szV V) ∧ (0 ≤ t ∧ t < szV V)) ∧ ((n < 0 ∨ 5 < n) ∨ (p < 0 ∨ 1 < p))) ∨ (((0 ≤ b ∧ b ≤ 3) ∧ (0 ≤ f ∧ f < szV V) ∧ (0 ≤ t ∧ t < szV V)) ∧ (0 ≤ n ∧ n ≤ 5) ∧ (0 ≤ p ∧ p ≤ 1) ∧ chaX V (V (8 + 4 * b.toNat + 0)) f.toNat t.toNat n.toNat p z)
theorem aftX.uniq {V : Nat → Int} {L : Int} {f n : Nat} {z z2 : Int} (h : aftX V L f n z) (g : aftX V L f n z2) : z2 = z := by
  obtain ⟨s, h2, h3⟩ := h
  obtain ⟨u, g2, g3⟩ := g
  have k : u = s := by
    apply Nat.eq_of_testBit_eq
    intro j
    have a := h3 j
    have b := g3 j
    have q : bt u j = 1 ↔ bt s j = 1 := b.trans a.symm
    unfold bt at q
    cases x : u.testBit j <;> cases y : s.testBit j <;> rw [x, y] at q
    · exact absurd (q.mpr rfl) (by decide)
    · exact absurd (q.mp rfl) (by decide)
  rw [h2, g2, k]
theorem wayX.uniq {V : Nat → Int} {L : Int} {f t n : Nat} {z z2 : Int} (h : wayX V L f t n z) (g : wayX V L f t n z2) : z2 = z := by
  obtain ⟨l, h1, h2⟩ := h
  obtain ⟨m, g1, g2⟩ := g
  rw [h2, g2, wyT_eq (l := l) (l2 := m) (fun c hc => h1.uniq g1 (by omega)) n t]
theorem chaX.uniq {V : Nat → Int} {L : Int} {f t n : Nat} {p z z2 : Int} (ht : (t : Int) < szV V) (h : chaX V L f t n p z) (g : chaX V L f t n p z2) : z2 = z := by
  obtain ⟨l, h1, h2⟩ := h
  obtain ⟨m, g1, g2⟩ := g
  rw [h2, g2, chT_eq (l := l) (l2 := m) (fun c hc => h1.uniq g1 (by omega)) n t (by omega)]
theorem U_after {V : Nat → Int} {b f n z z2 : Int} (h : aftP V b f n z) (g : aftP V b f n z2) : z2 = z := by
  rcases h with h | h | ⟨h1, h2, h3⟩ <;> rcases g with g | g | ⟨g1, g2, g3⟩
  · omega
  · omega
  · clear g3; omega
  · omega
  · omega
  · clear g3; omega
  · clear h3; omega
  · clear h3; omega
  · exact h3.uniq g3
theorem U_ways {V : Nat → Int} {b f t n z z2 : Int} (h : wayP V b f t n z) (g : wayP V b f t n z2) : z2 = z := by
  rcases h with h | h | ⟨h1, h2, h3⟩ <;> rcases g with g | g | ⟨g1, g2, g3⟩
  · omega
  · omega
  · clear g3; omega
  · omega
  · omega
  · clear g3; omega
  · clear h3; omega
  · clear h3; omega
  · exact h3.uniq g3
theorem U_chance {V : Nat → Int} {b f t n p z z2 : Int} (h : chcP V b f t n p z) (g : chcP V b f t n p z2) : z2 = z := by
  rcases h with h | h | ⟨h1, h2, h3, h4⟩ <;> rcases g with g | g | ⟨g1, g2, g3, g4⟩
  · omega
  · omega
  · clear g4; omega
  · omega
  · omega
  · clear g4; omega
  · clear h4; omega
  · clear h4; omega
  · exact chaX.uniq (by omega) h4 g4
