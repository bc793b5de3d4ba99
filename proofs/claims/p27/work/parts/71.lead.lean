/-! ===== the cells that a stride leads to ===== -/
noncomputable def rootF (n : Nat) : Int := (am_root.getD n 0).toInt
theorem root_ok : ∀ n, n < 26 → (rootF n < 0 ∨ (0 ≤ rootF n ∧ rootF n ≤ 5 ∧ rootF n * rootF n = (n : Int))) := by decide +kernel
theorem root_sq : ∀ e, e < 6 → 0 ≤ rootF (e * e) := by decide +kernel
section ST5
variable {d k : Nat} {Q : Option Value → am_W → Prop} {pc : Nat} {ls : am_L} {st : List Value} {w : am_W} {len : Nat}
theorem s_alB (u : Nat) (hf : am_find (am_code k) pc = some (.arraylength, len)) (hu : pc + 1 = u) (hw : w.length = 89) (h : ∀ x : Int32, x.toInt = 26 → aw none d k Q (u, ls, .int x :: st) w) : aw none d k Q (pc, ls, .ref am_B :: st) w := by
  subst hu
  refine aw_step hf (f1 := (pc + 1, ls, .int (Int32.ofNat am_root.length) :: st)) (w1 := w) ?_ (h _ (by decide))
  show am_alen none (pc + 1) ls (.ref am_B :: st) w = _
  have n : w[am_B]? = none := List.getElem?_eq_none (by rw [hw]; decide)
  unfold am_alen
  simp only
  rw [n]
  simp only
  rw [show am_ints none w am_B = some am_root from rfl]
  rfl
theorem s_iaB {i : Int32} (u : Nat) (hf : am_find (am_code k) pc = some (.iaload, len)) (hu : pc + 1 = u) (h0 : 0 ≤ i.toInt) (h1 : i.toInt < 26) (h : ∀ x : Int32, x.toInt = rootF i.toInt.toNat → -1 ≤ x.toInt → x.toInt ≤ 5 → aw none d k Q (u, ls, .int x :: st) w) : aw none d k Q (pc, ls, .int i :: .ref am_B :: st) w := by
  subst hu
  have hb : ∀ n, n < 26 → -1 ≤ rootF n ∧ rootF n ≤ 5 := by decide +kernel
  have b := hb i.toInt.toNat (by omega)
  refine aw_step hf (f1 := (pc + 1, ls, .int (am_root.getD i.toInt.toNat 0) :: st)) (w1 := w) ?_ (h _ rfl b.1 b.2)
  show am_iald none (pc + 1) ls (.int i :: .ref am_B :: st) w = _
  unfold am_iald
  simp only
  rw [show am_ints none w am_B = some am_root from rfl]
  simp only
  rw [if_neg (am_oob h0 (by show i.toInt < ((26 : Nat) : Int); omega)), am_nat h0]
  rfl
end ST5
theorem dv_6 {c a b : Int} (h0 : 0 ≤ c) (h1 : c < a * b) (h2 : 1 ≤ b) (h3 : b ≤ 6) : 0 ≤ c / b ∧ c / b < a ∧ 0 ≤ c % b ∧ c % b < b := by
  have : b = 1 ∨ b = 2 ∨ b = 3 ∨ b = 4 ∨ b = 5 ∨ b = 6 := by omega
  rcases this with rfl | rfl | rfl | rfl | rfl | rfl <;> omega
theorem dm_u {j r q b : Int} (h2 : 1 ≤ b) (h3 : b ≤ 6) : (j / b = r ∧ j % b = q) ↔ (j = r * b + q ∧ 0 ≤ q ∧ q < b) := by
  have : b = 1 ∨ b = 2 ∨ b = 3 ∨ b = 4 ∨ b = 5 ∨ b = 6 := by omega
  rcases this with rfl | rfl | rfl | rfl | rfl | rfl <;> omega
theorem sq_5 {e t : Int} (h1 : -5 ≤ e) (h2 : e ≤ 5) (h3 : 0 ≤ t) (h4 : t ≤ 5) : e * e = t * t ↔ e = t ∨ e = -t := by
  have a : e = -5 ∨ e = -4 ∨ e = -3 ∨ e = -2 ∨ e = -1 ∨ e = 0 ∨ e = 1 ∨ e = 2 ∨ e = 3 ∨ e = 4 ∨ e = 5 := by omega
  have b : t = 0 ∨ t = 1 ∨ t = 2 ∨ t = 3 ∨ t = 4 ∨ t = 5 := by omega
  rcases b with rfl | rfl | rfl | rfl | rfl | rfl <;> rcases a with rfl | rfl | rfl | rfl | rfl | rfl | rfl | rfl | rfl | rfl | rfl <;> decide
theorem sq_r {e s : Int} (h1 : -5 ≤ e) (h2 : e ≤ 5) (h : e * e = s) : (0 ≤ s ∧ s < 26) ∧ 0 ≤ rootF s.toNat := by
  have a : e = -5 ∨ e = -4 ∨ e = -3 ∨ e = -2 ∨ e = -1 ∨ e = 0 ∨ e = 1 ∨ e = 2 ∨ e = 3 ∨ e = 4 ∨ e = 5 := by omega
  subst h
  rcases a with rfl | rfl | rfl | rfl | rfl | rfl | rfl | rfl | rfl | rfl | rfl <;> decide
/-- rows below r are done -/
noncomputable def rcI (c b s : Int) (x : Nat) (r : Int) : Prop := ∀ j : Nat, bt x j = 1 ↔ (j : Int) / c < r ∧ sqM c j b = s
theorem rcI.no {c b s r : Int} {x : Nat} (h : rcI c b s x r) (q : ∀ j : Nat, (j : Int) / c = r → sqM c j b ≠ s) : rcI c b s x (r + 1) := fun j => (h j).trans ⟨fun z => ⟨by omega, z.2⟩, fun z => ⟨by
  have : (j : Int) / c ≠ r := fun y => q j y z.2
  omega, z.2⟩⟩
theorem rcI.ye {c b s r : Int} {x y x' : Nat} (h : rcI c b s x r) (q : ∀ j : Nat, bt y j = 1 ↔ (j : Int) / c = r ∧ sqM c j b = s) (e : x' = x ||| y) : rcI c b s x' (r + 1) := fun j => by
  have hj := h j
  have qj := q j
  have l1 := bt_le x j
  have l2 := bt_le y j
  rw [e, bt_or]
  constructor
  · intro z
    by_cases a : bt x j = 1
    · have := hj.mp a; exact ⟨by omega, this.2⟩
    · have := qj.mp (by omega); exact ⟨by omega, this.2⟩
  · intro z
    by_cases a : (j : Int) / c = r
    · have := qj.mpr ⟨a, z.2⟩; omega
    · have := hj.mpr ⟨by omega, z.2⟩; omega
noncomputable def atV (c r q : Int) : Nat := if 0 ≤ q ∧ q < c then 2 ^ (r * c + q).toNat else 0
theorem atV_b {c r q : Int} {j : Nat} (h2 : 1 ≤ c) (h3 : c ≤ 6) (hr : 0 ≤ r) (hr5 : r ≤ 5) : bt (atV c r q) j = 1 ↔ (j : Int) / c = r ∧ (j : Int) % c = q := by
  rw [dm_u h2 h3]
  have mm := mu_6 (a := 6) h2 h3 hr (by omega) (by omega)
  unfold atV
  by_cases a : 0 ≤ q ∧ q < c
  · rw [if_pos a, bt_pow]
    by_cases e : (r * c + q).toNat = j
    · rw [if_pos e]; exact ⟨fun _ => ⟨by omega, a⟩, fun _ => rfl⟩
    · rw [if_neg e]; exact ⟨fun z => by omega, fun z => by omega⟩
  · rw [if_neg a, bt_z]; exact ⟨fun z => by omega, fun z => absurd z.2 a⟩
/-- the bits of a row: a root is there -/
theorem row_ye {c b s r t : Int} (h2 : 1 ≤ c) (h3 : c ≤ 6) (hr : 0 ≤ r) (hr5 : r ≤ 5) (t0 : 0 ≤ t ∧ t ≤ 5) (e : t * t = s - (r - b / c) * (r - b / c)) : ∀ j : Nat, bt (atV c r (b % c - t) ||| atV c r (b % c + t)) j = 1 ↔ (j : Int) / c = r ∧ sqM c j b = s := by
  intro j
  have k1 := atV_b (c := c) (r := r) (q := b % c - t) (j := j) h2 h3 hr hr5
  have k2 := atV_b (c := c) (r := r) (q := b % c + t) (j := j) h2 h3 hr hr5
  have l1 := bt_le (atV c r (b % c - t)) j
  have l2 := bt_le (atV c r (b % c + t)) j
  have m1 : 0 ≤ (j : Int) % c ∧ (j : Int) % c < c := ⟨Int.emod_nonneg _ (by omega), Int.emod_lt_of_pos _ (by omega)⟩
  have m2 : 0 ≤ b % c ∧ b % c < c := ⟨Int.emod_nonneg _ (by omega), Int.emod_lt_of_pos _ (by omega)⟩
  have key : (j : Int) / c = r → (sqM c j b = s ↔ (j : Int) % c - b % c = t ∨ (j : Int) % c - b % c = -t) := by
    intro z
    rw [← sq_5 (e := (j : Int) % c - b % c) (t := t) (by omega) (by omega) t0.1 t0.2, e]
    unfold sqM
    rw [z]
    omega
  rw [bt_or]
  constructor
  · intro z
    by_cases a : bt (atV c r (b % c - t)) j = 1
    · have := k1.mp a; exact ⟨this.1, (key this.1).mpr (by omega)⟩
    · have := k2.mp (by omega); exact ⟨this.1, (key this.1).mpr (by omega)⟩
  · intro z
    rcases (key z.1).mp z.2 with y | y
    · have := k2.mpr ⟨z.1, by omega⟩; omega
    · have := k1.mpr ⟨z.1, by omega⟩; omega
/-- no root -/
theorem row_no {c b s r : Int} (h2 : 1 ≤ c) (h3 : c ≤ 6) (q : s - (r - b / c) * (r - b / c) < 0 ∨ 26 ≤ s - (r - b / c) * (r - b / c) ∨ rootF (s - (r - b / c) * (r - b / c)).toNat < 0) : ∀ j : Nat, (j : Int) / c = r → sqM c j b ≠ s := by
  intro j z y
  have m1 : 0 ≤ (j : Int) % c ∧ (j : Int) % c < c := ⟨Int.emod_nonneg _ (by omega), Int.emod_lt_of_pos _ (by omega)⟩
  have m2 : 0 ≤ b % c ∧ b % c < c := ⟨Int.emod_nonneg _ (by omega), Int.emod_lt_of_pos _ (by omega)⟩
  unfold sqM at y
  rw [z] at y
  have k := sq_r (e := (j : Int) % c - b % c) (s := s - (r - b / c) * (r - b / c)) (by omega) (by omega) (by omega)
  omega
/-- the set of the cells, no sea, that are off by s from b -/
noncomputable def lsV (V : Nat → Int) (s b : Int) (x : Nat) : Prop := ∀ j : Nat, bt x j = 1 ↔ ((j : Int) < szV V ∧ V (40 + j) ≠ 126) ∧ sqM (V 1) j b = s
theorem bt_un {x y : Nat} {F : Nat → Prop} (a : ∀ j, bt x j = 1 ↔ F j) (b : ∀ j, bt y j = 1 ↔ F j) : x = y := bt_eq fun j => by
  have l1 := bt_le x j
  have l2 := bt_le y j
  by_cases z : bt x j = 1
  · rw [z, (b j).mpr ((a j).mp z)]
  · have : ¬ bt y j = 1 := fun q => z ((a j).mpr ((b j).mp q))
    omega
theorem bt_lt {x m : Nat} (h : ∀ j, bt x j = 1 → j < m) : x < 2 ^ m := Nat.lt_pow_two_of_testBit x fun i hi => by
  have l := bt_le x i
  refine bt_0.mp ?_
  have : ¬ bt x i = 1 := fun z => by have := h i z; omega
  omega
theorem lsV.lt {V : Nat → Int} {s b : Int} {x : Nat} (h : lsV V s b x) (hz : szV V ≤ 36) : x < 2 ^ 36 := bt_lt fun j hj => by have := ((h j).mp hj).1.1; omega
theorem e_at {d : Nat} {w : am_W} {V : Nat → Int} (R : RCs w 3 V) (r q : Int32) (hr : 0 ≤ r.toInt ∧ r.toInt < V 0) (I : ab_inv ab_TT ab_sets w) : aw none d 46 (fun r1 w1 => w = w1 ∧ ∃ y : Int64, r1 = some (.long y) ∧ n64 y = atV (V 1) r.toInt q.toInt) (0, am_entry 46 [.ref 3, .int r, .int q], []) w := by
  have J : ab_J ab_TT ab_sets ab_WR2 w w := ⟨I, ab_fr.rf⟩
  have r1 := R.f1
  have b0 := fI_in (p := 3) (k := 0) I rfl rfl
  have b1 := fI_in (p := 3) (k := 1) I rfl rfl
  have r0 := R.f0
  have mm := mu_6 (r := r.toInt) (b := V 1) (a := V 0) (by omega) (by omega) (by omega) (by omega) (by omega)
  show aw none d 46 _ (0, [some (.ref 3), some (.int r), some (.int q)], []) w
  refine aw_step (f1 := (1, [some (.ref 3), some (.int r), some (.int q)], [(.int q)])) (w1 := w) rfl rfl ?_
  refine s_if 25 4 rfl rfl rfl (fun (h1 : q.toInt < 0) => ?_) (fun (h1 : ¬ (q.toInt < 0)) => ?_)
  · --
    --
    refine s_l (pc1 := 26) (ls1 := [some (.ref 3), some (.int r), some (.int q)]) (st1 := []) rfl rfl fun y2 e3 => ?_
    have e3t : y2.toInt = 0 := by rw [e3]; rfl
    refine aw_ret (v := some (.long y2)) rfl rfl ?_
    exact ⟨rfl, y2, rfl, by unfold atV; rw [if_neg (by omega)]; exact n64_z.mp e3t⟩
  · --
    refine aw_step (f1 := (5, [some (.ref 3), some (.int r), some (.int q)], [(.int q)])) (w1 := w) rfl rfl ?_
    refine aw_step (f1 := (6, [some (.ref 3), some (.int r), some (.int q)], [(.ref 3), (.int q)])) (w1 := w) rfl rfl ?_
    refine s_gi J 9 rfl rfl rfl rfl rfl rfl fun x4 x4a x4b x4f => ?_
    have x4v : x4.toInt = fI w 3 1 := by rw [← fI_of x4f]
    refine s_ic 25 12 rfl rfl rfl (fun (h5 : x4.toInt ≤ q.toInt) => ?_) (fun (h5 : ¬ (x4.toInt ≤ q.toInt)) => ?_)
    · --
      --
      refine s_l (pc1 := 26) (ls1 := [some (.ref 3), some (.int r), some (.int q)]) (st1 := []) rfl rfl fun y6 e7 => ?_
      have e7t : y6.toInt = 0 := by rw [e7]; rfl
      refine aw_ret (v := some (.long y6)) rfl rfl ?_
      exact ⟨rfl, y6, rfl, by unfold atV; rw [if_neg (by omega)]; exact n64_z.mp e7t⟩
    · --
      --
      refine s_l (pc1 := 13) (ls1 := [some (.ref 3), some (.int r), some (.int q)]) (st1 := []) rfl rfl fun y8 e9 => ?_
      have e9t : y8.toInt = 1 := by rw [e9]; rfl
      --
      refine aw_step (f1 := (14, [some (.ref 3), some (.int r), some (.int q)], [(.int r), (.long y8)])) (w1 := w) rfl rfl ?_
      refine aw_step (f1 := (15, [some (.ref 3), some (.int r), some (.int q)], [(.ref 3), (.int r), (.long y8)])) (w1 := w) rfl rfl ?_
      refine s_gi J 18 rfl rfl rfl rfl rfl rfl fun x10 x10a x10b x10f => ?_
      have x10v : x10.toInt = fI w 3 1 := by rw [← fI_of x10f]
      --
      refine s_i (pc1 := 19) (ls1 := [some (.ref 3), some (.int r), some (.int q)]) (st1 := [(.long y8)]) rfl rfl fun x11 e12 => ?_
      have e12 : x11 = r * x10 := e12
      have mp : x11.toInt = r.toInt * V 1 := by rw [e12, n_mul (by rw [show x10.toInt = V 1 by omega]; omega) (by rw [show x10.toInt = V 1 by omega]; omega), show x10.toInt = V 1 by omega]
      refine aw_step (f1 := (20, [some (.ref 3), some (.int r), some (.int q)], [(.int q), (.int x11), (.long y8)])) (w1 := w) rfl rfl ?_
      refine s_i (pc1 := 21) (ls1 := [some (.ref 3), some (.int r), some (.int q)]) (st1 := [(.long y8)]) rfl rfl fun x13 e14 => ?_
      have e14 : x13 = x11 + q := e14
      have e14t : x13.toInt = x11.toInt + q.toInt := by rw [e14]; exact n_add (by omega) (by omega)
      --
      refine s_l (pc1 := 22) (ls1 := [some (.ref 3), some (.int r), some (.int q)]) (st1 := []) rfl rfl fun y15 e16 => ?_
      have e16 : y15 = y8 <<< (x13.toInt64 &&& 63) := e16
      refine aw_step (f1 := (26, [some (.ref 3), some (.int r), some (.int q)], [(.long y15)])) (w1 := w) rfl rfl ?_
      refine aw_ret (v := some (.long y15)) rfl rfl ?_
      exact ⟨rfl, y15, rfl, by unfold atV; rw [if_pos ⟨by omega, by omega⟩, e16, n64_shl (by omega) (by omega) e9t, show x13.toInt = r.toInt * V 1 + q.toInt by omega]⟩
theorem e_reachL {d : Nat} {w : am_W} {V : Nat → Int} (R : RCs w 3 V) (s c : Int32) (hs : -1000 ≤ s.toInt ∧ s.toInt ≤ 1000) (hcz : 0 ≤ c.toInt ∧ c.toInt < szV V) (I : ab_inv ab_TT ab_sets w) (J : ab_J ab_TT ab_sets ab_WR2 w w) : ∀ (m : Nat) (y : Int64) (r : Int32) (o6 o7 : Option Value), (V 0 - r.toInt).toNat < m → 0 ≤ r.toInt → r.toInt ≤ V 0 → rcI (V 1) c.toInt s.toInt (n64 y) r.toInt → aw none (d + 1) 44 (fun r1 w1 => w = w1 ∧ ∃ z : Int64, r1 = some (.long z) ∧ lsV V s.toInt c.toInt (n64 z)) (5, [some (.ref 3), some (.int s), some (.int c), some (.long y), none, some (.int r), o6, o7], []) w := by
  have szc := szC_in I
  have hsz := R.sz
  have r0 := R.f0
  have r1 := R.f1
  have b0 := fI_in (p := 3) (k := 0) I rfl rfl
  have b1 := fI_in (p := 3) (k := 1) I rfl rfl
  obtain ⟨-, hr, hc⟩ := R.2.1 c.toInt.toNat (by omega)
  rw [show ((c.toInt.toNat : Nat) : Int) = c.toInt by omega] at hr hc
  have hr : rI w 5 c.toInt.toNat = c.toInt / V 1 := hr
  have hc : rI w 6 c.toInt.toNat = c.toInt % V 1 := hc
  have dv := dv_6 (c := c.toInt) (a := V 0) (b := V 1) hcz.1 hcz.2 (by omega) (by omega)
  intro m
  induction m with
  | zero => intro y r o6 o7 p; omega
  | succ m ih =>
    intro y r o6 o7 p1 p2 p3 F
    refine aw_step (f1 := (7, [some (.ref 3), some (.int s), some (.int c), some (.long y), none, some (.int r), o6, o7], [(.int r)])) (w1 := w) rfl rfl ?_
    refine aw_step (f1 := (8, [some (.ref 3), some (.int s), some (.int c), some (.long y), none, some (.int r), o6, o7], [(.ref 3), (.int r)])) (w1 := w) rfl rfl ?_
    refine s_gi J 11 rfl rfl rfl rfl rfl rfl fun x1 x1a x1b x1f => ?_
    have x1v : x1.toInt = fI w 3 0 := by rw [← fI_of x1f]
    refine s_ic 105 14 rfl rfl rfl (fun (h2 : x1.toInt ≤ r.toInt) => ?_) (fun (h2 : ¬ (x1.toInt ≤ r.toInt)) => ?_)
    · --
      refine aw_step (f1 := (106, [some (.ref 3), some (.int s), some (.int c), some (.long y), none, some (.int r), o6, o7], [(.long y)])) (w1 := w) rfl rfl ?_
      refine aw_step (f1 := (107, [some (.ref 3), some (.int s), some (.int c), some (.long y), none, some (.int r), o6, o7], [(.ref 3), (.long y)])) (w1 := w) rfl rfl ?_
      refine s_gl J 110 rfl rfl rfl rfl rfl rfl fun y3 y3a y3b y3f => ?_
      --
      refine s_l (pc1 := 111) (ls1 := [some (.ref 3), some (.int s), some (.int c), some (.long y), none, some (.int r), o6, o7]) (st1 := []) rfl rfl fun y4 e5 => ?_
      have e5 : y4 = y &&& y3 := e5
      refine aw_ret (v := some (.long y4)) rfl rfl ?_
      have hd := R.2.2
      rw [fL_of y3f] at hd
      refine ⟨rfl, y4, rfl, fun j => ?_⟩
      have fj := F j
      have dj := hd j
      have l1 := bt_le (n64 y) j
      have l2 := bt_le (n64 y3) j
      rw [e5, n64_and, bt_and]
      constructor
      · intro z
        have a := fj.mp (by omega)
        have b := dj.mp (by omega)
        exact ⟨b, a.2⟩
      · intro z
        have a := fj.mpr ⟨by have := dv_6 (c := (j : Int)) (a := V 0) (b := V 1) (by omega) z.1.1 (by omega) (by omega); omega, z.2⟩
        have b := dj.mpr z.1
        omega
    · --
      refine aw_step (f1 := (16, [some (.ref 3), some (.int s), some (.int c), some (.long y), none, some (.int r), o6, o7], [(.int r)])) (w1 := w) rfl rfl ?_
      refine aw_step (f1 := (17, [some (.ref 3), some (.int s), some (.int c), some (.long y), none, some (.int r), o6, o7], [(.ref 3), (.int r)])) (w1 := w) rfl rfl ?_
      refine s_gr 5 J 20 rfl rfl rfl rfl rfl rfl ?_
      refine aw_step (f1 := (21, [some (.ref 3), some (.int s), some (.int c), some (.long y), none, some (.int r), o6, o7], [(.int c), (.ref 5), (.int r)])) (w1 := w) rfl rfl ?_
      refine s_ia J 22 rfl rfl rfl rfl (by omega) (by omega) fun x6 x6a x6b x6f => ?_
      have x6v : x6.toInt = rI w 5 c.toInt.toNat := by rw [← rI_of x6f]
      have rw0 : x6.toInt = c.toInt / V 1 := by rw [x6v]; exact hr
      refine s_i (pc1 := 23) (ls1 := [some (.ref 3), some (.int s), some (.int c), some (.long y), none, some (.int r), o6, o7]) (st1 := []) rfl rfl fun x7 e8 => ?_
      have e8 : x7 = r - x6 := e8
      have e8t : x7.toInt = r.toInt - x6.toInt := by rw [e8]; exact n_sub (by omega) (by omega)
      refine aw_step (f1 := (25, [some (.ref 3), some (.int s), some (.int c), some (.long y), none, some (.int r), some (.int x7), o7], [])) (w1 := w) rfl rfl ?_
      refine aw_step (f1 := (26, [some (.ref 3), some (.int s), some (.int c), some (.long y), none, some (.int r), some (.int x7), o7], [(.int s)])) (w1 := w) rfl rfl ?_
      refine aw_step (f1 := (28, [some (.ref 3), some (.int s), some (.int c), some (.long y), none, some (.int r), some (.int x7), o7], [(.int x7), (.int s)])) (w1 := w) rfl rfl ?_
      refine aw_step (f1 := (30, [some (.ref 3), some (.int s), some (.int c), some (.long y), none, some (.int r), some (.int x7), o7], [(.int x7), (.int x7), (.int s)])) (w1 := w) rfl rfl ?_
      --
      refine s_i (pc1 := 31) (ls1 := [some (.ref 3), some (.int s), some (.int c), some (.long y), none, some (.int r), some (.int x7), o7]) (st1 := [(.int s)]) rfl rfl fun x9 e10 => ?_
      have e10 : x9 = x7 * x7 := e10
      have sb := sq_b (r := x7.toInt) (by omega) (by omega)
      have dd : x9.toInt = x7.toInt * x7.toInt := by rw [e10, n_mul (by omega) (by omega)]
      have de : x7.toInt = r.toInt - c.toInt / V 1 := by omega
      rw [de] at dd sb
      refine s_i (pc1 := 32) (ls1 := [some (.ref 3), some (.int s), some (.int c), some (.long y), none, some (.int r), some (.int x7), o7]) (st1 := []) rfl rfl fun x11 e12 => ?_
      have e12 : x11 = s - x9 := e12
      have e12t : x11.toInt = s.toInt - x9.toInt := by rw [e12]; exact n_sub (by omega) (by omega)
      refine aw_step (f1 := (34, [some (.ref 3), some (.int s), some (.int c), some (.long y), none, some (.int r), some (.int x7), some (.int x11)], [])) (w1 := w) rfl rfl ?_
      --
      refine aw_step (f1 := (36, [some (.ref 3), some (.int s), some (.int c), some (.long y), none, some (.int r), some (.int x7), some (.int x11)], [(.int x11)])) (w1 := w) rfl rfl ?_
      refine s_if 99 39 rfl rfl rfl (fun (h13 : x11.toInt < 0) => ?_) (fun (h13 : ¬ (x11.toInt < 0)) => ?_)
      · --
        refine aw_step (f1 := (102, [some (.ref 3), some (.int s), some (.int c), some (.long y), none, some (.int (r + Int32.ofInt 1)), some (.int x7), some (.int x11)], [])) (w1 := w) rfl rfl ?_
        obtain ⟨x14, x14e⟩ : ∃ z, z = (r + Int32.ofInt 1) := ⟨_, rfl⟩
        have x14t : x14.toInt = r.toInt + (1) := by rw [x14e]; exact n_add (y := Int32.ofInt (1)) (by show _ ≤ _ + (1 : Int); omega) (by show _ + (1 : Int) ≤ _; omega)
        rw [← x14e]
        refine aw_step (f1 := (5, [some (.ref 3), some (.int s), some (.int c), some (.long y), none, some (.int x14), some (.int x7), some (.int x11)], [])) (w1 := w) rfl rfl ?_
        refine ih y x14 _ _ (by omega) (by omega) (by omega) ?_
        rw [show x14.toInt = r.toInt + 1 by omega]
        exact F.no (row_no (by omega) (by omega) (by rw [← show x11.toInt = s.toInt - (r.toInt - c.toInt / V 1) * (r.toInt - c.toInt / V 1) by omega]; omega))
      · --
        refine aw_step (f1 := (41, [some (.ref 3), some (.int s), some (.int c), some (.long y), none, some (.int r), some (.int x7), some (.int x11)], [(.int x11)])) (w1 := w) rfl rfl ?_
        refine aw_step (f1 := (44, [some (.ref 3), some (.int s), some (.int c), some (.long y), none, some (.int r), some (.int x7), some (.int x11)], [(.ref am_B), (.int x11)])) (w1 := w) rfl rfl ?_
        refine s_alB 45 rfl rfl (by rw [J.1.1]; rfl) fun x15 x15t => ?_
        refine s_ic 99 48 rfl rfl rfl (fun (h16 : x15.toInt ≤ x11.toInt) => ?_) (fun (h16 : ¬ (x15.toInt ≤ x11.toInt)) => ?_)
        · --
          refine aw_step (f1 := (102, [some (.ref 3), some (.int s), some (.int c), some (.long y), none, some (.int (r + Int32.ofInt 1)), some (.int x7), some (.int x11)], [])) (w1 := w) rfl rfl ?_
          obtain ⟨x17, x17e⟩ : ∃ z, z = (r + Int32.ofInt 1) := ⟨_, rfl⟩
          have x17t : x17.toInt = r.toInt + (1) := by rw [x17e]; exact n_add (y := Int32.ofInt (1)) (by show _ ≤ _ + (1 : Int); omega) (by show _ + (1 : Int) ≤ _; omega)
          rw [← x17e]
          refine aw_step (f1 := (5, [some (.ref 3), some (.int s), some (.int c), some (.long y), none, some (.int x17), some (.int x7), some (.int x11)], [])) (w1 := w) rfl rfl ?_
          refine ih y x17 _ _ (by omega) (by omega) (by omega) ?_
          rw [show x17.toInt = r.toInt + 1 by omega]
          exact F.no (row_no (by omega) (by omega) (by rw [← show x11.toInt = s.toInt - (r.toInt - c.toInt / V 1) * (r.toInt - c.toInt / V 1) by omega]; omega))
        · --
          refine aw_step (f1 := (51, [some (.ref 3), some (.int s), some (.int c), some (.long y), none, some (.int r), some (.int x7), some (.int x11)], [(.ref am_B)])) (w1 := w) rfl rfl ?_
          refine aw_step (f1 := (53, [some (.ref 3), some (.int s), some (.int c), some (.long y), none, some (.int r), some (.int x7), some (.int x11)], [(.int x11), (.ref am_B)])) (w1 := w) rfl rfl ?_
          refine s_iaB 54 rfl rfl (by omega) (by omega) fun x18 x18v x18a x18b => ?_
          refine s_if 99 57 rfl rfl rfl (fun (h19 : x18.toInt < 0) => ?_) (fun (h19 : ¬ (x18.toInt < 0)) => ?_)
          · --
            refine aw_step (f1 := (102, [some (.ref 3), some (.int s), some (.int c), some (.long y), none, some (.int (r + Int32.ofInt 1)), some (.int x7), some (.int x11)], [])) (w1 := w) rfl rfl ?_
            obtain ⟨x20, x20e⟩ : ∃ z, z = (r + Int32.ofInt 1) := ⟨_, rfl⟩
            have x20t : x20.toInt = r.toInt + (1) := by rw [x20e]; exact n_add (y := Int32.ofInt (1)) (by show _ ≤ _ + (1 : Int); omega) (by show _ + (1 : Int) ≤ _; omega)
            rw [← x20e]
            refine aw_step (f1 := (5, [some (.ref 3), some (.int s), some (.int c), some (.long y), none, some (.int x20), some (.int x7), some (.int x11)], [])) (w1 := w) rfl rfl ?_
            refine ih y x20 _ _ (by omega) (by omega) (by omega) ?_
            rw [show x20.toInt = r.toInt + 1 by omega]
            exact F.no (row_no (by omega) (by omega) (by rw [← show x11.toInt = s.toInt - (r.toInt - c.toInt / V 1) * (r.toInt - c.toInt / V 1) by omega]; omega))
          · --
            refine aw_step (f1 := (58, [some (.ref 3), some (.int s), some (.int c), some (.long y), none, some (.int r), some (.int x7), some (.int x11)], [(.long y)])) (w1 := w) rfl rfl ?_
            refine aw_step (f1 := (59, [some (.ref 3), some (.int s), some (.int c), some (.long y), none, some (.int r), some (.int x7), some (.int x11)], [(.ref 3), (.long y)])) (w1 := w) rfl rfl ?_
            refine aw_step (f1 := (61, [some (.ref 3), some (.int s), some (.int c), some (.long y), none, some (.int r), some (.int x7), some (.int x11)], [(.int r), (.ref 3), (.long y)])) (w1 := w) rfl rfl ?_
            refine aw_step (f1 := (62, [some (.ref 3), some (.int s), some (.int c), some (.long y), none, some (.int r), some (.int x7), some (.int x11)], [(.ref 3), (.int r), (.ref 3), (.long y)])) (w1 := w) rfl rfl ?_
            refine s_gr 6 J 65 rfl rfl rfl rfl rfl rfl ?_
            refine aw_step (f1 := (66, [some (.ref 3), some (.int s), some (.int c), some (.long y), none, some (.int r), some (.int x7), some (.int x11)], [(.int c), (.ref 6), (.int r), (.ref 3), (.long y)])) (w1 := w) rfl rfl ?_
            refine s_ia J 67 rfl rfl rfl rfl (by omega) (by omega) fun x21 x21a x21b x21f => ?_
            have x21v : x21.toInt = rI w 6 c.toInt.toNat := by rw [← rI_of x21f]
            refine aw_step (f1 := (70, [some (.ref 3), some (.int s), some (.int c), some (.long y), none, some (.int r), some (.int x7), some (.int x11)], [(.ref am_B), (.int x21), (.int r), (.ref 3), (.long y)])) (w1 := w) rfl rfl ?_
            refine aw_step (f1 := (72, [some (.ref 3), some (.int s), some (.int c), some (.long y), none, some (.int r), some (.int x7), some (.int x11)], [(.int x11), (.ref am_B), (.int x21), (.int r), (.ref 3), (.long y)])) (w1 := w) rfl rfl ?_
            refine s_iaB 73 rfl rfl (by omega) (by omega) fun x22 x22v x22a x22b => ?_
            have cl1 : x21.toInt = c.toInt % V 1 := by rw [x21v]; exact hc
            refine s_i (pc1 := 74) (ls1 := [some (.ref 3), some (.int s), some (.int c), some (.long y), none, some (.int r), some (.int x7), some (.int x11)]) (st1 := [(.int r), (.ref 3), (.long y)]) rfl rfl fun x23 e24 => ?_
            have e24 : x23 = x21 - x22 := e24
            have e24t : x23.toInt = x21.toInt - x22.toInt := by rw [e24]; exact n_sub (by omega) (by omega)
            --
            refine s_cv (z := 46) (p := 3) (as := [(.int r), (.int x23)]) (st1 := [(.long y)]) J 77 rfl rfl rfl rfl rfl rfl rfl rfl (Nat.le_of_ble_eq_true rfl) (Nat.le_of_ble_eq_true rfl) (e_at R r x23 ⟨by omega, by omega⟩ J.1) ?_
            rintro _ _ ⟨rfl, y25, rfl, y25t⟩
            refine ⟨rfl, ?_⟩
            show aw none _ 44 _ (77, [some (.ref 3), some (.int s), some (.int c), some (.long y), none, some (.int r), some (.int x7), some (.int x11)], [(.long y25), (.long y)]) w
            refine aw_step (f1 := (78, [some (.ref 3), some (.int s), some (.int c), some (.long y), none, some (.int r), some (.int x7), some (.int x11)], [(.ref 3), (.long y25), (.long y)])) (w1 := w) rfl rfl ?_
            refine aw_step (f1 := (80, [some (.ref 3), some (.int s), some (.int c), some (.long y), none, some (.int r), some (.int x7), some (.int x11)], [(.int r), (.ref 3), (.long y25), (.long y)])) (w1 := w) rfl rfl ?_
            refine aw_step (f1 := (81, [some (.ref 3), some (.int s), some (.int c), some (.long y), none, some (.int r), some (.int x7), some (.int x11)], [(.ref 3), (.int r), (.ref 3), (.long y25), (.long y)])) (w1 := w) rfl rfl ?_
            refine s_gr 6 J 84 rfl rfl rfl rfl rfl rfl ?_
            refine aw_step (f1 := (85, [some (.ref 3), some (.int s), some (.int c), some (.long y), none, some (.int r), some (.int x7), some (.int x11)], [(.int c), (.ref 6), (.int r), (.ref 3), (.long y25), (.long y)])) (w1 := w) rfl rfl ?_
            refine s_ia J 86 rfl rfl rfl rfl (by omega) (by omega) fun x26 x26a x26b x26f => ?_
            have x26v : x26.toInt = rI w 6 c.toInt.toNat := by rw [← rI_of x26f]
            refine aw_step (f1 := (89, [some (.ref 3), some (.int s), some (.int c), some (.long y), none, some (.int r), some (.int x7), some (.int x11)], [(.ref am_B), (.int x26), (.int r), (.ref 3), (.long y25), (.long y)])) (w1 := w) rfl rfl ?_
            refine aw_step (f1 := (91, [some (.ref 3), some (.int s), some (.int c), some (.long y), none, some (.int r), some (.int x7), some (.int x11)], [(.int x11), (.ref am_B), (.int x26), (.int r), (.ref 3), (.long y25), (.long y)])) (w1 := w) rfl rfl ?_
            refine s_iaB 92 rfl rfl (by omega) (by omega) fun x27 x27v x27a x27b => ?_
            have cl2 : x26.toInt = c.toInt % V 1 := by rw [x26v]; exact hc
            refine s_i (pc1 := 93) (ls1 := [some (.ref 3), some (.int s), some (.int c), some (.long y), none, some (.int r), some (.int x7), some (.int x11)]) (st1 := [(.int r), (.ref 3), (.long y25), (.long y)]) rfl rfl fun x28 e29 => ?_
            have e29 : x28 = x26 + x27 := e29
            have e29t : x28.toInt = x26.toInt + x27.toInt := by rw [e29]; exact n_add (by omega) (by omega)
            --
            refine s_cv (z := 46) (p := 3) (as := [(.int r), (.int x28)]) (st1 := [(.long y25), (.long y)]) J 96 rfl rfl rfl rfl rfl rfl rfl rfl (Nat.le_of_ble_eq_true rfl) (Nat.le_of_ble_eq_true rfl) (e_at R r x28 ⟨by omega, by omega⟩ J.1) ?_
            rintro _ _ ⟨rfl, y30, rfl, y30t⟩
            refine ⟨rfl, ?_⟩
            show aw none _ 44 _ (96, [some (.ref 3), some (.int s), some (.int c), some (.long y), none, some (.int r), some (.int x7), some (.int x11)], [(.long y30), (.long y25), (.long y)]) w
            --
            refine s_l (pc1 := 97) (ls1 := [some (.ref 3), some (.int s), some (.int c), some (.long y), none, some (.int r), some (.int x7), some (.int x11)]) (st1 := [(.long y)]) rfl rfl fun y31 e32 => ?_
            have e32 : y31 = y25 ||| y30 := e32
            --
            refine s_l (pc1 := 98) (ls1 := [some (.ref 3), some (.int s), some (.int c), some (.long y), none, some (.int r), some (.int x7), some (.int x11)]) (st1 := []) rfl rfl fun y33 e34 => ?_
            have e34 : y33 = y ||| y31 := e34
            refine aw_step (f1 := (99, [some (.ref 3), some (.int s), some (.int c), some (.long y33), none, some (.int r), some (.int x7), some (.int x11)], [])) (w1 := w) rfl rfl ?_
            refine aw_step (f1 := (102, [some (.ref 3), some (.int s), some (.int c), some (.long y33), none, some (.int (r + Int32.ofInt 1)), some (.int x7), some (.int x11)], [])) (w1 := w) rfl rfl ?_
            obtain ⟨x35, x35e⟩ : ∃ z, z = (r + Int32.ofInt 1) := ⟨_, rfl⟩
            have x35t : x35.toInt = r.toInt + (1) := by rw [x35e]; exact n_add (y := Int32.ofInt (1)) (by show _ ≤ _ + (1 : Int); omega) (by show _ + (1 : Int) ≤ _; omega)
            rw [← x35e]
            refine aw_step (f1 := (5, [some (.ref 3), some (.int s), some (.int c), some (.long y33), none, some (.int x35), some (.int x7), some (.int x11)], [])) (w1 := w) rfl rfl ?_
            have ro := root_ok x11.toInt.toNat (by omega)
            have re : x11.toInt = s.toInt - (r.toInt - c.toInt / V 1) * (r.toInt - c.toInt / V 1) := by omega
            refine ih y33 x35 _ _ (by omega) (by omega) (by omega) ?_
            rw [show x35.toInt = r.toInt + 1 by omega]
            refine F.ye (y := n64 y25 ||| n64 y30) ?_ (by rw [e34, n64_or, e32, n64_or])
            rw [y25t, y30t, show x23.toInt = c.toInt % V 1 - rootF x11.toInt.toNat by omega, show x28.toInt = c.toInt % V 1 + rootF x11.toInt.toNat by omega]
            exact row_ye (by omega) (by omega) (by omega) (by omega) ⟨by omega, by omega⟩ (by omega)
theorem e_reach {d : Nat} {w : am_W} {V : Nat → Int} (R : RCs w 3 V) (s c : Int32) (hs : -1000 ≤ s.toInt ∧ s.toInt ≤ 1000) (hcz : 0 ≤ c.toInt ∧ c.toInt < szV V) (I : ab_inv ab_TT ab_sets w) : aw none (d + 1) 44 (fun r1 w1 => w = w1 ∧ ∃ z : Int64, r1 = some (.long z) ∧ lsV V s.toInt c.toInt (n64 z)) (0, am_entry 44 [.ref 3, .int s, .int c], []) w := by
  have J : ab_J ab_TT ab_sets ab_WR2 w w := ⟨I, ab_fr.rf⟩
  have r0 := R.f0
  have r1 := R.f1
  have b0 := fI_in (p := 3) (k := 0) I rfl rfl
  have b1 := fI_in (p := 3) (k := 1) I rfl rfl
  show aw none (d + 1) 44 _ (0, [some (.ref 3), some (.int s), some (.int c), none, none, none, none, none], []) w
  refine s_l (pc1 := 1) (ls1 := [some (.ref 3), some (.int s), some (.int c), none, none, none, none, none]) (st1 := []) rfl rfl fun y1 e2 => ?_
  have e2t : y1.toInt = 0 := by rw [e2]; rfl
  refine aw_step (f1 := (2, [some (.ref 3), some (.int s), some (.int c), some (.long y1), none, none, none, none], [])) (w1 := w) rfl rfl ?_
  refine s_i (pc1 := 3) (ls1 := [some (.ref 3), some (.int s), some (.int c), some (.long y1), none, none, none, none]) (st1 := []) rfl rfl fun x3 e4 => ?_
  have e4t : x3.toInt = 0 := by rw [e4]; rfl
  refine aw_step (f1 := (5, [some (.ref 3), some (.int s), some (.int c), some (.long y1), none, some (.int x3), none, none], [])) (w1 := w) rfl rfl ?_
  exact e_reachL R s c hs hcz I J 7 y1 x3 _ _ (by omega) (by omega) (by omega) (fun j => ⟨fun z => by rw [n64_z.mp e2t, bt_z] at z; omega, fun z => by have := Int.ediv_nonneg (a := (j : Int)) (b := V 1) (by omega) (by omega); omega⟩)
noncomputable def leadP (V : Nat → Int) (b c z : Int) : Prop := (z = -1000000000000000001 ∧ ((b < 0 ∨ 3 < b) ∨ c < 0 ∨ szV V ≤ c ∨ V (40 + c.toNat) = 126)) ∨ ((0 ≤ b ∧ b ≤ 3) ∧ (0 ≤ c ∧ c < szV V ∧ V (40 + c.toNat) ≠ 126) ∧ ∃ x : Nat, lsV V (V (8 + 4 * b.toNat + 0)) c x ∧ z = (x : Int))
theorem U_leads {V : Nat → Int} {b c z z2 : Int} (h : leadP V b c z) (g : leadP V b c z2) : z2 = z := by
  rcases h with h | ⟨h1, h2, x, h3, h4⟩ <;> rcases g with g | ⟨g1, g2, x2, g3, g4⟩
  · omega
  · omega
  · omega
  · rw [h4, g4, bt_un g3 h3]
theorem ldsM_V {w : am_W} {V : Nat → Int} {s b : Int} {x : Nat} (R : RMs w V) (hz : szV V ≤ 36) (h : ldsM w s b x) : lsV V s b x := by
  intro j
  rw [h.2 j, R.f1]
  unfold ldM
  rw [R.sz]
  constructor
  · intro q
    have q3 := q.1.2.2
    rw [R.rc (i := ((j : Nat) : Int).toNat) (by omega), show ((j : Nat) : Int).toNat = j by omega] at q3
    exact ⟨⟨q.1.2.1, q3⟩, q.2⟩
  · intro q
    refine ⟨⟨by omega, q.1.1, ?_⟩, q.2⟩
    rw [R.rc (i := ((j : Nat) : Int).toNat) (by omega), show ((j : Nat) : Int).toNat = j by omega]
    exact q.1.2
theorem l_36 {y : Int64} (h : n64 y < 2 ^ 36) : y.toInt = (n64 y : Int) := n64_toInt (by omega)
theorem e_leads {d : Nat} {w : am_W} {V : Nat → Int} (R : RCs w 3 V) (b c : Int32) (I : ab_inv ab_TT ab_sets w) : aw none (d + 4) 71 (fun r w1 => w = w1 ∧ ∃ z : Int64, r = some (.long z) ∧ leadP V b.toInt c.toInt z.toInt) (0, am_entry 71 [.ref 0, .int b, .int c], []) w := by
  have J : ab_J ab_TT ab_sets ab_WR2 w w := ⟨I, ab_fr.rf⟩
  have sz := szC_in I
  have hs := R.sz
  show aw none (d + 4) 71 _ (0, [some (.ref 0), some (.int b), some (.int c)], []) w
  refine aw_step (f1 := (1, [some (.ref 0), some (.int b), some (.int c)], [(.int b)])) (w1 := w) rfl rfl ?_
  refine s_cs (z := 103) (as := [(.int b)]) (st1 := []) 4 rfl rfl rfl rfl rfl rfl (Nat.le_of_ble_eq_true rfl) (Nat.le_of_ble_eq_true rfl) (Nat.le_of_ble_eq_true rfl) (q_isBoots b) ?_
  rintro _ _ ⟨rfl, x1, rfl, x1t⟩
  refine ⟨rfl, ?_⟩
  show aw none _ 71 _ (4, [some (.ref 0), some (.int b), some (.int c)], [(.int x1)]) w
  refine s_if 18 7 rfl rfl rfl (fun (h2 : x1.toInt = 0) => ?_) (fun (h2 : ¬ (x1.toInt = 0)) => ?_)
  · --
    --
    refine s_l (pc1 := 21) (ls1 := [some (.ref 0), some (.int b), some (.int c)]) (st1 := []) rfl rfl fun y3 e4 => ?_
    have e4t : y3.toInt = -1000000000000000001 := by rw [e4]; rfl
    refine aw_ret (v := some (.long y3)) rfl rfl ?_
    exact ⟨rfl, y3, rfl, Or.inl ⟨by omega, by first | omega | (have := hl0; omega)⟩⟩
  · --
    refine aw_step (f1 := (8, [some (.ref 0), some (.int b), some (.int c)], [(.ref 0)])) (w1 := w) rfl rfl ?_
    refine s_gr 3 J 11 rfl rfl rfl rfl rfl rfl ?_
    refine aw_step (f1 := (12, [some (.ref 0), some (.int b), some (.int c)], [(.int c), (.ref 3)])) (w1 := w) rfl rfl ?_
    refine s_cv (z := 40) (p := 3) (as := [(.int c)]) (st1 := []) J 15 rfl rfl rfl rfl rfl rfl rfl rfl (Nat.le_of_ble_eq_true rfl) (Nat.le_of_ble_eq_true rfl) (q_isDry R c J.1) ?_
    rintro _ _ ⟨rfl, x5, rfl, x5t⟩
    refine ⟨rfl, ?_⟩
    show aw none _ 71 _ (15, [some (.ref 0), some (.int b), some (.int c)], [(.int x5)]) w
    refine s_if 22 18 rfl rfl rfl (fun (h6 : ¬ x5.toInt = 0) => ?_) (fun (h6 : ¬ (¬ x5.toInt = 0)) => ?_)
    · --
      refine aw_step (f1 := (23, [some (.ref 0), some (.int b), some (.int c)], [(.ref 0)])) (w1 := w) rfl rfl ?_
      refine s_gr 3 J 26 rfl rfl rfl rfl rfl rfl ?_
      refine aw_step (f1 := (27, [some (.ref 0), some (.int b), some (.int c)], [(.ref 0), (.ref 3)])) (w1 := w) rfl rfl ?_
      refine s_gr 3 J 30 rfl rfl rfl rfl rfl rfl ?_
      refine s_gr 7 J 33 rfl rfl rfl rfl rfl rfl ?_
      refine aw_step (f1 := (34, [some (.ref 0), some (.int b), some (.int c)], [(.int b), (.ref 7), (.ref 3)])) (w1 := w) rfl rfl ?_
      refine s_ia J 35 rfl rfl rfl rfl (by omega) (by omega) fun x7 x7a x7b x7f => ?_
      have x7v : x7.toInt = rI w 7 b.toInt.toNat := by rw [← rI_of x7f]
      refine aw_step (f1 := (36, [some (.ref 0), some (.int b), some (.int c)], [(.int c), (.int x7), (.ref 3)])) (w1 := w) rfl rfl ?_
      have hl : x7.toInt = V (8 + 4 * b.toInt.toNat + 0) := by rw [x7v]; exact R.rv (r := 4) (i := b.toInt.toNat) (by decide) (by decide) (by omega) (by show b.toInt.toNat < 4; omega)
      refine s_cv (z := 44) (p := 3) (as := [(.int x7), (.int c)]) (st1 := []) J 39 rfl rfl rfl rfl rfl rfl rfl rfl (Nat.le_of_ble_eq_true rfl) (Nat.le_of_ble_eq_true rfl) (e_reach R x7 c ⟨by omega, by omega⟩ ⟨by omega, by omega⟩ J.1) ?_
      rintro _ _ ⟨rfl, y8, rfl, y8t⟩
      refine ⟨rfl, ?_⟩
      show aw none _ 71 _ (39, [some (.ref 0), some (.int b), some (.int c)], [(.long y8)]) w
      refine aw_ret (v := some (.long y8)) rfl rfl ?_
      exact ⟨rfl, y8, rfl, Or.inr ⟨⟨by omega, by omega⟩, ⟨by omega, by omega, by omega⟩, n64 y8, by have q := y8t; rw [hl] at q; exact q, l_36 (lsV.lt y8t (by omega))⟩⟩
    · --
      --
      refine s_l (pc1 := 21) (ls1 := [some (.ref 0), some (.int b), some (.int c)]) (st1 := []) rfl rfl fun y9 e10 => ?_
      have e10t : y9.toInt = -1000000000000000001 := by rw [e10]; rfl
      refine aw_ret (v := some (.long y9)) rfl rfl ?_
      exact ⟨rfl, y9, rfl, Or.inl ⟨by omega, by first | omega | (have := hl0; omega)⟩⟩
theorem f_leads {d : Nat} {w : am_W} {V : Nat → Int} (R : RMs w V) (b c : Int32) (I : ab_inv ab_TT ab_sets w) : aw none (d + 4) 140 (fun r w1 => w = w1 ∧ ∃ z : Int64, r = some (.long z) ∧ leadP V b.toInt c.toInt z.toInt) (0, am_entry 140 [.ref 65, .int b, .int c], []) w := by
  have J : ab_J ab_TT ab_sets ab_WR2 w w := ⟨I, ab_fr.rf⟩
  have sz := szM_in I
  have hs := R.sz
  have hl0 : 0 ≤ c.toInt → c.toInt < szV V → rI w 66 c.toInt.toNat = V (40 + c.toInt.toNat) := fun a b => R.rc (by omega)
  show aw none (d + 4) 140 _ (0, [some (.ref 65), some (.int b), some (.int c)], []) w
  refine aw_step (f1 := (1, [some (.ref 65), some (.int b), some (.int c)], [(.int b)])) (w1 := w) rfl rfl ?_
  refine s_cs (z := 116) (as := [(.int b)]) (st1 := []) 4 rfl rfl rfl rfl rfl rfl (Nat.le_of_ble_eq_true rfl) (Nat.le_of_ble_eq_true rfl) (Nat.le_of_ble_eq_true rfl) (q_areBoots b) ?_
  rintro _ _ ⟨rfl, x1, rfl, x1t⟩
  refine ⟨rfl, ?_⟩
  show aw none _ 140 _ (4, [some (.ref 65), some (.int b), some (.int c)], [(.int x1)]) w
  refine s_if 29 7 rfl rfl rfl (fun (h2 : x1.toInt = 0) => ?_) (fun (h2 : ¬ (x1.toInt = 0)) => ?_)
  · --
    --
    refine s_l (pc1 := 32) (ls1 := [some (.ref 65), some (.int b), some (.int c)]) (st1 := []) rfl rfl fun y3 e4 => ?_
    have e4t : y3.toInt = -1000000000000000001 := by rw [e4]; rfl
    refine aw_ret (v := some (.long y3)) rfl rfl ?_
    exact ⟨rfl, y3, rfl, Or.inl ⟨by omega, by first | omega | (have := hl0; omega)⟩⟩
  · --
    refine aw_step (f1 := (8, [some (.ref 65), some (.int b), some (.int c)], [(.ref 65)])) (w1 := w) rfl rfl ?_
    refine aw_step (f1 := (9, [some (.ref 65), some (.int b), some (.int c)], [(.int c), (.ref 65)])) (w1 := w) rfl rfl ?_
    refine s_cv (z := 115) (p := 65) (as := [(.int c)]) (st1 := []) J 12 rfl rfl rfl rfl rfl rfl rfl rfl (Nat.le_of_ble_eq_true rfl) (Nat.le_of_ble_eq_true rfl) (q_isLand c J.1) ?_
    rintro _ _ ⟨rfl, x5, rfl, x5t⟩
    refine ⟨rfl, ?_⟩
    show aw none _ 140 _ (12, [some (.ref 65), some (.int b), some (.int c)], [(.int x5)]) w
    have x5s := szM_in J.1
    refine s_if 29 15 rfl rfl rfl (fun (h6 : x5.toInt = 0) => ?_) (fun (h6 : ¬ (x5.toInt = 0)) => ?_)
    · --
      --
      refine s_l (pc1 := 32) (ls1 := [some (.ref 65), some (.int b), some (.int c)]) (st1 := []) rfl rfl fun y7 e8 => ?_
      have e8t : y7.toInt = -1000000000000000001 := by rw [e8]; rfl
      refine aw_ret (v := some (.long y7)) rfl rfl ?_
      exact ⟨rfl, y7, rfl, Or.inl ⟨by omega, by first | omega | (have := hl0; omega)⟩⟩
    · --
      refine aw_step (f1 := (16, [some (.ref 65), some (.int b), some (.int c)], [(.ref 65)])) (w1 := w) rfl rfl ?_
      refine aw_step (f1 := (17, [some (.ref 65), some (.int b), some (.int c)], [(.ref 65), (.ref 65)])) (w1 := w) rfl rfl ?_
      refine s_gr 67 J 20 rfl rfl rfl rfl rfl rfl ?_
      refine aw_step (f1 := (21, [some (.ref 65), some (.int b), some (.int c)], [(.int b), (.ref 67), (.ref 65)])) (w1 := w) rfl rfl ?_
      refine s_ia J 22 rfl rfl rfl rfl (by omega) (by omega) fun x9 x9a x9b x9f => ?_
      have x9v : x9.toInt = rI w 67 b.toInt.toNat := by rw [← rI_of x9f]
      refine aw_step (f1 := (23, [some (.ref 65), some (.int b), some (.int c)], [(.int c), (.int x9), (.ref 65)])) (w1 := w) rfl rfl ?_
      have hl : x9.toInt = V (8 + 4 * b.toInt.toNat + 0) := by rw [x9v]; exact R.ra (i := b.toInt.toNat) (c := 0) (by omega) (by decide)
      refine s_cv (z := 131) (p := 65) (as := [(.int x9), (.int c)]) (st1 := []) J 26 rfl rfl rfl rfl rfl rfl rfl rfl (Nat.le_of_ble_eq_true rfl) (Nat.le_of_ble_eq_true rfl) (q_leadsBy x9 c ⟨by omega, by omega⟩ J.1) ?_
      rintro _ _ ⟨rfl, y10, rfl, y10a, y10t⟩
      refine ⟨rfl, ?_⟩
      show aw none _ 140 _ (26, [some (.ref 65), some (.int b), some (.int c)], [(.long y10)]) w
      refine aw_step (f1 := (32, [some (.ref 65), some (.int b), some (.int c)], [(.long y10)])) (w1 := w) rfl rfl ?_
      refine aw_ret (v := some (.long y10)) rfl rfl ?_
      have ls := ldsM_V R (by omega) y10t
      rw [hl] at ls
      exact ⟨rfl, y10, rfl, Or.inr ⟨⟨by omega, by omega⟩, ⟨by omega, by omega, by first | omega | (have := hl0; omega)⟩, n64 y10, ls, l_36 (ls.lt (by omega))⟩⟩
noncomputable def st1 (L r : Int) : Nat → Int
  | 0 => 0
  | k + 1 => st1 L r k + (if r * r + ((k : Int) - 7) * ((k : Int) - 7) = L then 1 else 0)
noncomputable def st2 (L : Int) : Nat → Int
  | 0 => 0
  | k + 1 => st2 L k + st1 L ((k : Int) - 7) 15
theorem st1_b (L r : Int) : ∀ k, 0 ≤ st1 L r k ∧ st1 L r k ≤ k
  | 0 => by unfold st1; decide
  | k + 1 => by have := st1_b L r k; unfold st1; split <;> omega
theorem st2_b (L : Int) : ∀ k, 0 ≤ st2 L k ∧ st2 L k ≤ 15 * k
  | 0 => by unfold st2; decide
  | k + 1 => by have := st2_b L k; have := st1_b L ((k : Int) - 7) 15; unfold st2; omega
theorem st1_s {L r c : Int} (h : -7 ≤ c) : st1 L r (c + 1 + 7).toNat = st1 L r (c + 7).toNat + (if r * r + c * c = L then 1 else 0) := by
  rw [show (c + 1 + 7).toNat = (c + 7).toNat + 1 by omega, st1, show (((c + 7).toNat : Nat) : Int) - 7 = c by omega]
theorem st2_s {L r : Int} (h : -7 ≤ r) : st2 L (r + 1 + 7).toNat = st2 L (r + 7).toNat + st1 L r 15 := by
  rw [show (r + 1 + 7).toNat = (r + 7).toNat + 1 by omega, st2, show (((r + 7).toNat : Nat) : Int) - 7 = r by omega]
theorem sq_8 {r : Int} (h1 : -8 ≤ r) (h2 : r ≤ 8) : 0 ≤ r * r ∧ r * r ≤ 64 := by
  have : r = -8 ∨ r = -7 ∨ r = -6 ∨ r = -5 ∨ r = -4 ∨ r = -3 ∨ r = -2 ∨ r = -1 ∨ r = 0 ∨ r = 1 ∨ r = 2 ∨ r = 3 ∨ r = 4 ∨ r = 5 ∨ r = 6 ∨ r = 7 ∨ r = 8 := by omega
  rcases this with rfl | rfl | rfl | rfl | rfl | rfl | rfl | rfl | rfl | rfl | rfl | rfl | rfl | rfl | rfl | rfl | rfl <;> decide
noncomputable def strP (V : Nat → Int) (b z : Int) : Prop := (z = -1 ∧ (b < 0 ∨ 3 < b)) ∨ ((0 ≤ b ∧ b ≤ 3) ∧ z = st2 (V (8 + 4 * b.toNat + 0)) 15)
theorem e_strI {d : Nat} {Q : Option Value → am_W → Prop} {w : am_W} {V : Nat → Int} (R : RCs w 3 V) (b r : Int32) (hb : 0 ≤ b.toInt ∧ b.toInt ≤ 3) (hr : -7 ≤ r.toInt ∧ r.toInt ≤ 7) (J : ab_J ab_TT ab_sets ab_WR2 w w) (K : ∀ n c : Int32, n.toInt = st2 (V (8 + 4 * b.toInt.toNat + 0)) (r.toInt + 7).toNat + st1 (V (8 + 4 * b.toInt.toNat + 0)) r.toInt 15 → aw none (d + 1) 72 Q (61, [some (.ref 0), some (.int b), some (.int n), some (.int r), some (.int c)], []) w) : ∀ (m : Nat) (n c : Int32), (8 - c.toInt).toNat < m → -7 ≤ c.toInt → c.toInt ≤ 8 → n.toInt = st2 (V (8 + 4 * b.toInt.toNat + 0)) (r.toInt + 7).toNat + st1 (V (8 + 4 * b.toInt.toNat + 0)) r.toInt (c.toInt + 7).toNat → aw none (d + 1) 72 Q (24, [some (.ref 0), some (.int b), some (.int n), some (.int r), some (.int c)], []) w := by
  have s2 := st2_b (V (8 + 4 * b.toInt.toNat + 0)) (r.toInt + 7).toNat
  have sr := sq_8 (r := r.toInt) (by omega) (by omega)
  intro m
  induction m with
  | zero => intro n c p; omega
  | succ m ih =>
    intro n c p1 p2 p3 F
    have s1 := st1_b (V (8 + 4 * b.toInt.toNat + 0)) r.toInt (c.toInt + 7).toNat
    have sc0 := sq_8 (r := c.toInt) (by omega) (by omega)
    refine aw_step (f1 := (26, [some (.ref 0), some (.int b), some (.int n), some (.int r), some (.int c)], [(.int c)])) (w1 := w) rfl rfl ?_
    refine s_i (pc1 := 28) (ls1 := [some (.ref 0), some (.int b), some (.int n), some (.int r), some (.int c)]) (st1 := [(.int c)]) rfl rfl fun x1 e2 => ?_
    have e2t : x1.toInt = 7 := by rw [e2]; rfl
    refine s_ic 61 31 rfl rfl rfl (fun (h3 : x1.toInt < c.toInt) => ?_) (fun (h3 : ¬ (x1.toInt < c.toInt)) => ?_)
    · --
      exact K n c (by rw [F, show (c.toInt + 7).toNat = 15 by omega])
    · --
      refine aw_step (f1 := (32, [some (.ref 0), some (.int b), some (.int n), some (.int r), some (.int c)], [(.int r)])) (w1 := w) rfl rfl ?_
      refine aw_step (f1 := (33, [some (.ref 0), some (.int b), some (.int n), some (.int r), some (.int c)], [(.int r), (.int r)])) (w1 := w) rfl rfl ?_
      refine s_i (pc1 := 34) (ls1 := [some (.ref 0), some (.int b), some (.int n), some (.int r), some (.int c)]) (st1 := []) rfl rfl fun x4 e5 => ?_
      have e5 : x4 = r * r := e5
      have qr : x4.toInt = r.toInt * r.toInt := by rw [e5, n_mul (by omega) (by omega)]
      refine aw_step (f1 := (36, [some (.ref 0), some (.int b), some (.int n), some (.int r), some (.int c)], [(.int c), (.int x4)])) (w1 := w) rfl rfl ?_
      refine aw_step (f1 := (38, [some (.ref 0), some (.int b), some (.int n), some (.int r), some (.int c)], [(.int c), (.int c), (.int x4)])) (w1 := w) rfl rfl ?_
      refine s_i (pc1 := 39) (ls1 := [some (.ref 0), some (.int b), some (.int n), some (.int r), some (.int c)]) (st1 := [(.int x4)]) rfl rfl fun x6 e7 => ?_
      have e7 : x6 = c * c := e7
      have qc : x6.toInt = c.toInt * c.toInt := by rw [e7, n_mul (by omega) (by omega)]
      refine s_i (pc1 := 40) (ls1 := [some (.ref 0), some (.int b), some (.int n), some (.int r), some (.int c)]) (st1 := []) rfl rfl fun x8 e9 => ?_
      have e9 : x8 = x4 + x6 := e9
      have e9t : x8.toInt = x4.toInt + x6.toInt := by rw [e9]; exact n_add (by omega) (by omega)
      refine aw_step (f1 := (41, [some (.ref 0), some (.int b), some (.int n), some (.int r), some (.int c)], [(.ref 0), (.int x8)])) (w1 := w) rfl rfl ?_
      refine s_gr 3 J 44 rfl rfl rfl rfl rfl rfl ?_
      refine s_gr 7 J 47 rfl rfl rfl rfl rfl rfl ?_
      refine aw_step (f1 := (48, [some (.ref 0), some (.int b), some (.int n), some (.int r), some (.int c)], [(.int b), (.ref 7), (.int x8)])) (w1 := w) rfl rfl ?_
      refine s_ia J 49 rfl rfl rfl rfl (by omega) (by omega) fun x10 x10a x10b x10f => ?_
      have x10v : x10.toInt = rI w 7 b.toInt.toNat := by rw [← rI_of x10f]
      have hl : x10.toInt = V (8 + 4 * b.toInt.toNat + 0) := by rw [x10v]; exact R.rv (r := 4) (i := b.toInt.toNat) (by decide) (by decide) (by omega) (by show b.toInt.toNat < 4; omega)
      refine s_ic 55 52 rfl rfl rfl (fun (h11 : ¬ x8.toInt = x10.toInt) => ?_) (fun (h11 : ¬ (¬ x8.toInt = x10.toInt)) => ?_)
      · --
        refine aw_step (f1 := (58, [some (.ref 0), some (.int b), some (.int n), some (.int r), some (.int (c + Int32.ofInt 1))], [])) (w1 := w) rfl rfl ?_
        obtain ⟨x12, x12e⟩ : ∃ z, z = (c + Int32.ofInt 1) := ⟨_, rfl⟩
        have x12t : x12.toInt = c.toInt + (1) := by rw [x12e]; exact n_add (y := Int32.ofInt (1)) (by show _ ≤ _ + (1 : Int); omega) (by show _ + (1 : Int) ≤ _; omega)
        rw [← x12e]
        refine aw_step (f1 := (24, [some (.ref 0), some (.int b), some (.int n), some (.int r), some (.int x12)], [])) (w1 := w) rfl rfl ?_
        refine ih n x12 (by omega) (by omega) (by omega) ?_
        rw [show x12.toInt = c.toInt + 1 by omega, st1_s (by omega)]
        first
          | (rw [if_pos (by omega)]; omega)
          | (rw [if_neg (by omega)]; omega)
      · --
        refine aw_step (f1 := (55, [some (.ref 0), some (.int b), some (.int (n + Int32.ofInt 1)), some (.int r), some (.int c)], [])) (w1 := w) rfl rfl ?_
        obtain ⟨x13, x13e⟩ : ∃ z, z = (n + Int32.ofInt 1) := ⟨_, rfl⟩
        have x13t : x13.toInt = n.toInt + (1) := by rw [x13e]; exact n_add (y := Int32.ofInt (1)) (by show _ ≤ _ + (1 : Int); omega) (by show _ + (1 : Int) ≤ _; omega)
        rw [← x13e]
        refine aw_step (f1 := (58, [some (.ref 0), some (.int b), some (.int x13), some (.int r), some (.int (c + Int32.ofInt 1))], [])) (w1 := w) rfl rfl ?_
        obtain ⟨x14, x14e⟩ : ∃ z, z = (c + Int32.ofInt 1) := ⟨_, rfl⟩
        have x14t : x14.toInt = c.toInt + (1) := by rw [x14e]; exact n_add (y := Int32.ofInt (1)) (by show _ ≤ _ + (1 : Int); omega) (by show _ + (1 : Int) ≤ _; omega)
        rw [← x14e]
        refine aw_step (f1 := (24, [some (.ref 0), some (.int b), some (.int x13), some (.int r), some (.int x14)], [])) (w1 := w) rfl rfl ?_
        refine ih x13 x14 (by omega) (by omega) (by omega) ?_
        rw [show x14.toInt = c.toInt + 1 by omega, st1_s (by omega)]
        first
          | (rw [if_pos (by omega)]; omega)
          | (rw [if_neg (by omega)]; omega)
theorem e_strO {d : Nat} {w : am_W} {V : Nat → Int} (R : RCs w 3 V) (b : Int32) (hb : 0 ≤ b.toInt ∧ b.toInt ≤ 3) (J : ab_J ab_TT ab_sets ab_WR2 w w) : ∀ (m : Nat) (n r : Int32) (o4 : Option Value), (8 - r.toInt).toNat < m → -7 ≤ r.toInt → r.toInt ≤ 8 → n.toInt = st2 (V (8 + 4 * b.toInt.toNat + 0)) (r.toInt + 7).toNat → aw none (d + 1) 72 (fun r1 w1 => w = w1 ∧ ∃ z : Int32, r1 = some (.int z) ∧ strP V b.toInt z.toInt) (14, [some (.ref 0), some (.int b), some (.int n), some (.int r), o4], []) w := by
  intro m
  induction m with
  | zero => intro n r o4 p; omega
  | succ m ih =>
    intro n r o4 p1 p2 p3 F
    refine aw_step (f1 := (15, [some (.ref 0), some (.int b), some (.int n), some (.int r), o4], [(.int r)])) (w1 := w) rfl rfl ?_
    refine s_i (pc1 := 17) (ls1 := [some (.ref 0), some (.int b), some (.int n), some (.int r), o4]) (st1 := [(.int r)]) rfl rfl fun x1 e2 => ?_
    have e2t : x1.toInt = 7 := by rw [e2]; rfl
    refine s_ic 67 20 rfl rfl rfl (fun (h3 : x1.toInt < r.toInt) => ?_) (fun (h3 : ¬ (x1.toInt < r.toInt)) => ?_)
    · --
      refine aw_step (f1 := (68, [some (.ref 0), some (.int b), some (.int n), some (.int r), o4], [(.int n)])) (w1 := w) rfl rfl ?_
      refine aw_ret (v := some (.int n)) rfl rfl ?_
      exact ⟨rfl, n, rfl, Or.inr ⟨hb, by rw [F, show (r.toInt + 7).toNat = 15 by omega]⟩⟩
    · --
      refine s_i (pc1 := 22) (ls1 := [some (.ref 0), some (.int b), some (.int n), some (.int r), o4]) (st1 := []) rfl rfl fun x4 e5 => ?_
      have e5t : x4.toInt = -7 := by rw [e5]; rfl
      refine aw_step (f1 := (24, [some (.ref 0), some (.int b), some (.int n), some (.int r), some (.int x4)], [])) (w1 := w) rfl rfl ?_
      refine e_strI R b r hb ⟨by omega, by omega⟩ J (fun nq cq Fq => ?_) 16 n x4 (by omega) (by omega) (by omega) (by rw [F, show (x4.toInt + 7).toNat = 0 by omega]; show _ = _ + (0 : Int); omega)
      refine aw_step (f1 := (64, [some (.ref 0), some (.int b), some (.int nq), some (.int (r + Int32.ofInt 1)), some (.int cq)], [])) (w1 := w) rfl rfl ?_
      obtain ⟨zx1, zx1e⟩ : ∃ z, z = (r + Int32.ofInt 1) := ⟨_, rfl⟩
      have zx1t : zx1.toInt = r.toInt + (1) := by rw [zx1e]; exact n_add (y := Int32.ofInt (1)) (by show _ ≤ _ + (1 : Int); omega) (by show _ + (1 : Int) ≤ _; omega)
      rw [← zx1e]
      refine aw_step (f1 := (14, [some (.ref 0), some (.int b), some (.int nq), some (.int zx1), some (.int cq)], [])) (w1 := w) rfl rfl ?_
      exact ih nq zx1 _ (by omega) (by omega) (by omega) (by rw [show zx1.toInt = r.toInt + 1 by omega, st2_s (by omega)]; exact Fq)
theorem e_strides {d : Nat} {w : am_W} {V : Nat → Int} (R : RCs w 3 V) (b : Int32) (I : ab_inv ab_TT ab_sets w) : aw none (d + 2) 72 (fun r1 w1 => w = w1 ∧ ∃ z : Int32, r1 = some (.int z) ∧ strP V b.toInt z.toInt) (0, am_entry 72 [.ref 0, .int b], []) w := by
  have J : ab_J ab_TT ab_sets ab_WR2 w w := ⟨I, ab_fr.rf⟩
  show aw none (d + 2) 72 _ (0, [some (.ref 0), some (.int b), none, none, none], []) w
  refine aw_step (f1 := (1, [some (.ref 0), some (.int b), none, none, none], [(.int b)])) (w1 := w) rfl rfl ?_
  refine s_cs (z := 103) (as := [(.int b)]) (st1 := []) 4 rfl rfl rfl rfl rfl rfl (Nat.le_of_ble_eq_true rfl) (Nat.le_of_ble_eq_true rfl) (Nat.le_of_ble_eq_true rfl) (q_isBoots b) ?_
  rintro _ _ ⟨rfl, x1, rfl, x1t⟩
  refine ⟨rfl, ?_⟩
  show aw none _ 72 _ (4, [some (.ref 0), some (.int b), none, none, none], [(.int x1)]) w
  refine s_if 9 7 rfl rfl rfl (fun (h2 : ¬ x1.toInt = 0) => ?_) (fun (h2 : ¬ (¬ x1.toInt = 0)) => ?_)
  · --
    refine s_i (pc1 := 10) (ls1 := [some (.ref 0), some (.int b), none, none, none]) (st1 := []) rfl rfl fun x3 e4 => ?_
    have e4t : x3.toInt = 0 := by rw [e4]; rfl
    refine aw_step (f1 := (11, [some (.ref 0), some (.int b), some (.int x3), none, none], [])) (w1 := w) rfl rfl ?_
    refine s_i (pc1 := 13) (ls1 := [some (.ref 0), some (.int b), some (.int x3), none, none]) (st1 := []) rfl rfl fun x5 e6 => ?_
    have e6t : x5.toInt = -7 := by rw [e6]; rfl
    refine aw_step (f1 := (14, [some (.ref 0), some (.int b), some (.int x3), some (.int x5), none], [])) (w1 := w) rfl rfl ?_
    exact e_strO R b ⟨by omega, by omega⟩ J 16 x3 x5 _ (by omega) (by omega) (by omega) (by rw [show (x5.toInt + 7).toNat = 0 by omega]; show _ = (0 : Int); omega)
  · --
    refine s_i (pc1 := 8) (ls1 := [some (.ref 0), some (.int b), none, none, none]) (st1 := []) rfl rfl fun x7 e8 => ?_
    have e8t : x7.toInt = -1 := by rw [e8]; rfl
    refine aw_ret (v := some (.int x7)) rfl rfl ?_
    exact ⟨rfl, x7, rfl, Or.inl ⟨by omega, by omega⟩⟩
theorem f_strI {d : Nat} {Q : Option Value → am_W → Prop} {w : am_W} {V : Nat → Int} (R : RMs w V) (b r : Int32) (hb : 0 ≤ b.toInt ∧ b.toInt ≤ 3) (hr : -7 ≤ r.toInt ∧ r.toInt ≤ 7) (J : ab_J ab_TT ab_sets ab_WR2 w w) (K : ∀ n c : Int32, n.toInt = st2 (V (8 + 4 * b.toInt.toNat + 0)) (r.toInt + 7).toNat + st1 (V (8 + 4 * b.toInt.toNat + 0)) r.toInt 15 → aw none (d + 1) 141 Q (63, [some (.ref 65), some (.int b), some (.int n), some (.int r), some (.int c)], []) w) : ∀ (m : Nat) (n c : Int32), (8 - c.toInt).toNat < m → -7 ≤ c.toInt → c.toInt ≤ 8 → n.toInt = st2 (V (8 + 4 * b.toInt.toNat + 0)) (r.toInt + 7).toNat + st1 (V (8 + 4 * b.toInt.toNat + 0)) r.toInt (c.toInt + 7).toNat → aw none (d + 1) 141 Q (24, [some (.ref 65), some (.int b), some (.int n), some (.int r), some (.int c)], []) w := by
  have s2 := st2_b (V (8 + 4 * b.toInt.toNat + 0)) (r.toInt + 7).toNat
  have sr := sq_8 (r := r.toInt) (by omega) (by omega)
  intro m
  induction m with
  | zero => intro n c p; omega
  | succ m ih =>
    intro n c p1 p2 p3 F
    have s1 := st1_b (V (8 + 4 * b.toInt.toNat + 0)) r.toInt (c.toInt + 7).toNat
    have sc0 := sq_8 (r := c.toInt) (by omega) (by omega)
    refine aw_step (f1 := (26, [some (.ref 65), some (.int b), some (.int n), some (.int r), some (.int c)], [(.int c)])) (w1 := w) rfl rfl ?_
    refine s_i (pc1 := 28) (ls1 := [some (.ref 65), some (.int b), some (.int n), some (.int r), some (.int c)]) (st1 := [(.int c)]) rfl rfl fun x1 e2 => ?_
    have e2t : x1.toInt = 8 := by rw [e2]; rfl
    refine s_ic 63 31 rfl rfl rfl (fun (h3 : x1.toInt ≤ c.toInt) => ?_) (fun (h3 : ¬ (x1.toInt ≤ c.toInt)) => ?_)
    · --
      exact K n c (by rw [F, show (c.toInt + 7).toNat = 15 by omega])
    · --
      refine aw_step (f1 := (32, [some (.ref 65), some (.int b), some (.int n), some (.int r), some (.int c)], [(.int n)])) (w1 := w) rfl rfl ?_
      refine aw_step (f1 := (33, [some (.ref 65), some (.int b), some (.int n), some (.int r), some (.int c)], [(.int r), (.int n)])) (w1 := w) rfl rfl ?_
      refine aw_step (f1 := (34, [some (.ref 65), some (.int b), some (.int n), some (.int r), some (.int c)], [(.int r), (.int r), (.int n)])) (w1 := w) rfl rfl ?_
      refine s_i (pc1 := 35) (ls1 := [some (.ref 65), some (.int b), some (.int n), some (.int r), some (.int c)]) (st1 := [(.int n)]) rfl rfl fun x4 e5 => ?_
      have e5 : x4 = r * r := e5
      have qr : x4.toInt = r.toInt * r.toInt := by rw [e5, n_mul (by omega) (by omega)]
      refine aw_step (f1 := (37, [some (.ref 65), some (.int b), some (.int n), some (.int r), some (.int c)], [(.int c), (.int x4), (.int n)])) (w1 := w) rfl rfl ?_
      refine aw_step (f1 := (39, [some (.ref 65), some (.int b), some (.int n), some (.int r), some (.int c)], [(.int c), (.int c), (.int x4), (.int n)])) (w1 := w) rfl rfl ?_
      refine s_i (pc1 := 40) (ls1 := [some (.ref 65), some (.int b), some (.int n), some (.int r), some (.int c)]) (st1 := [(.int x4), (.int n)]) rfl rfl fun x6 e7 => ?_
      have e7 : x6 = c * c := e7
      have qc : x6.toInt = c.toInt * c.toInt := by rw [e7, n_mul (by omega) (by omega)]
      refine s_i (pc1 := 41) (ls1 := [some (.ref 65), some (.int b), some (.int n), some (.int r), some (.int c)]) (st1 := [(.int n)]) rfl rfl fun x8 e9 => ?_
      have e9 : x8 = x4 + x6 := e9
      have e9t : x8.toInt = x4.toInt + x6.toInt := by rw [e9]; exact n_add (by omega) (by omega)
      refine aw_step (f1 := (42, [some (.ref 65), some (.int b), some (.int n), some (.int r), some (.int c)], [(.ref 65), (.int x8), (.int n)])) (w1 := w) rfl rfl ?_
      refine s_gr 67 J 45 rfl rfl rfl rfl rfl rfl ?_
      refine aw_step (f1 := (46, [some (.ref 65), some (.int b), some (.int n), some (.int r), some (.int c)], [(.int b), (.ref 67), (.int x8), (.int n)])) (w1 := w) rfl rfl ?_
      refine s_ia J 47 rfl rfl rfl rfl (by omega) (by omega) fun x10 x10a x10b x10f => ?_
      have x10v : x10.toInt = rI w 67 b.toInt.toNat := by rw [← rI_of x10f]
      have hl : x10.toInt = V (8 + 4 * b.toInt.toNat + 0) := by rw [x10v]; exact R.ra (i := b.toInt.toNat) (c := 0) (by omega) (by decide)
      refine s_ic 54 50 rfl rfl rfl (fun (h11 : ¬ x8.toInt = x10.toInt) => ?_) (fun (h11 : ¬ (¬ x8.toInt = x10.toInt)) => ?_)
      · --
        refine s_i (pc1 := 55) (ls1 := [some (.ref 65), some (.int b), some (.int n), some (.int r), some (.int c)]) (st1 := [(.int n)]) rfl rfl fun x12 e13 => ?_
        have e13t : x12.toInt = 0 := by rw [e13]; rfl
        refine s_i (pc1 := 56) (ls1 := [some (.ref 65), some (.int b), some (.int n), some (.int r), some (.int c)]) (st1 := []) rfl rfl fun x14 e15 => ?_
        have e15 : x14 = n + x12 := e15
        have e15t : x14.toInt = n.toInt + x12.toInt := by rw [e15]; exact n_add (by omega) (by omega)
        refine aw_step (f1 := (57, [some (.ref 65), some (.int b), some (.int x14), some (.int r), some (.int c)], [])) (w1 := w) rfl rfl ?_
        refine aw_step (f1 := (60, [some (.ref 65), some (.int b), some (.int x14), some (.int r), some (.int (c + Int32.ofInt 1))], [])) (w1 := w) rfl rfl ?_
        obtain ⟨x16, x16e⟩ : ∃ z, z = (c + Int32.ofInt 1) := ⟨_, rfl⟩
        have x16t : x16.toInt = c.toInt + (1) := by rw [x16e]; exact n_add (y := Int32.ofInt (1)) (by show _ ≤ _ + (1 : Int); omega) (by show _ + (1 : Int) ≤ _; omega)
        rw [← x16e]
        refine aw_step (f1 := (24, [some (.ref 65), some (.int b), some (.int x14), some (.int r), some (.int x16)], [])) (w1 := w) rfl rfl ?_
        refine ih x14 x16 (by omega) (by omega) (by omega) ?_
        rw [show x16.toInt = c.toInt + 1 by omega, st1_s (by omega)]
        first
          | (rw [if_pos (by omega)]; omega)
          | (rw [if_neg (by omega)]; omega)
      · --
        refine s_i (pc1 := 51) (ls1 := [some (.ref 65), some (.int b), some (.int n), some (.int r), some (.int c)]) (st1 := [(.int n)]) rfl rfl fun x17 e18 => ?_
        have e18t : x17.toInt = 1 := by rw [e18]; rfl
        refine aw_step (f1 := (55, [some (.ref 65), some (.int b), some (.int n), some (.int r), some (.int c)], [(.int x17), (.int n)])) (w1 := w) rfl rfl ?_
        refine s_i (pc1 := 56) (ls1 := [some (.ref 65), some (.int b), some (.int n), some (.int r), some (.int c)]) (st1 := []) rfl rfl fun x19 e20 => ?_
        have e20 : x19 = n + x17 := e20
        have e20t : x19.toInt = n.toInt + x17.toInt := by rw [e20]; exact n_add (by omega) (by omega)
        refine aw_step (f1 := (57, [some (.ref 65), some (.int b), some (.int x19), some (.int r), some (.int c)], [])) (w1 := w) rfl rfl ?_
        refine aw_step (f1 := (60, [some (.ref 65), some (.int b), some (.int x19), some (.int r), some (.int (c + Int32.ofInt 1))], [])) (w1 := w) rfl rfl ?_
        obtain ⟨x21, x21e⟩ : ∃ z, z = (c + Int32.ofInt 1) := ⟨_, rfl⟩
        have x21t : x21.toInt = c.toInt + (1) := by rw [x21e]; exact n_add (y := Int32.ofInt (1)) (by show _ ≤ _ + (1 : Int); omega) (by show _ + (1 : Int) ≤ _; omega)
        rw [← x21e]
        refine aw_step (f1 := (24, [some (.ref 65), some (.int b), some (.int x19), some (.int r), some (.int x21)], [])) (w1 := w) rfl rfl ?_
        refine ih x19 x21 (by omega) (by omega) (by omega) ?_
        rw [show x21.toInt = c.toInt + 1 by omega, st1_s (by omega)]
        first
          | (rw [if_pos (by omega)]; omega)
          | (rw [if_neg (by omega)]; omega)
theorem f_strO {d : Nat} {w : am_W} {V : Nat → Int} (R : RMs w V) (b : Int32) (hb : 0 ≤ b.toInt ∧ b.toInt ≤ 3) (J : ab_J ab_TT ab_sets ab_WR2 w w) : ∀ (m : Nat) (n r : Int32) (o4 : Option Value), (8 - r.toInt).toNat < m → -7 ≤ r.toInt → r.toInt ≤ 8 → n.toInt = st2 (V (8 + 4 * b.toInt.toNat + 0)) (r.toInt + 7).toNat → aw none (d + 1) 141 (fun r1 w1 => w = w1 ∧ ∃ z : Int32, r1 = some (.int z) ∧ strP V b.toInt z.toInt) (14, [some (.ref 65), some (.int b), some (.int n), some (.int r), o4], []) w := by
  intro m
  induction m with
  | zero => intro n r o4 p; omega
  | succ m ih =>
    intro n r o4 p1 p2 p3 F
    refine aw_step (f1 := (15, [some (.ref 65), some (.int b), some (.int n), some (.int r), o4], [(.int r)])) (w1 := w) rfl rfl ?_
    refine s_i (pc1 := 17) (ls1 := [some (.ref 65), some (.int b), some (.int n), some (.int r), o4]) (st1 := [(.int r)]) rfl rfl fun x1 e2 => ?_
    have e2t : x1.toInt = 8 := by rw [e2]; rfl
    refine s_ic 69 20 rfl rfl rfl (fun (h3 : x1.toInt ≤ r.toInt) => ?_) (fun (h3 : ¬ (x1.toInt ≤ r.toInt)) => ?_)
    · --
      refine aw_step (f1 := (70, [some (.ref 65), some (.int b), some (.int n), some (.int r), o4], [(.int n)])) (w1 := w) rfl rfl ?_
      refine aw_ret (v := some (.int n)) rfl rfl ?_
      exact ⟨rfl, n, rfl, Or.inr ⟨hb, by rw [F, show (r.toInt + 7).toNat = 15 by omega]⟩⟩
    · --
      refine s_i (pc1 := 22) (ls1 := [some (.ref 65), some (.int b), some (.int n), some (.int r), o4]) (st1 := []) rfl rfl fun x4 e5 => ?_
      have e5t : x4.toInt = -7 := by rw [e5]; rfl
      refine aw_step (f1 := (24, [some (.ref 65), some (.int b), some (.int n), some (.int r), some (.int x4)], [])) (w1 := w) rfl rfl ?_
      refine f_strI R b r hb ⟨by omega, by omega⟩ J (fun nq cq Fq => ?_) 16 n x4 (by omega) (by omega) (by omega) (by rw [F, show (x4.toInt + 7).toNat = 0 by omega]; show _ = _ + (0 : Int); omega)
      refine aw_step (f1 := (66, [some (.ref 65), some (.int b), some (.int nq), some (.int (r + Int32.ofInt 1)), some (.int cq)], [])) (w1 := w) rfl rfl ?_
      obtain ⟨zx1, zx1e⟩ : ∃ z, z = (r + Int32.ofInt 1) := ⟨_, rfl⟩
      have zx1t : zx1.toInt = r.toInt + (1) := by rw [zx1e]; exact n_add (y := Int32.ofInt (1)) (by show _ ≤ _ + (1 : Int); omega) (by show _ + (1 : Int) ≤ _; omega)
      rw [← zx1e]
      refine aw_step (f1 := (14, [some (.ref 65), some (.int b), some (.int nq), some (.int zx1), some (.int cq)], [])) (w1 := w) rfl rfl ?_
      exact ih nq zx1 _ (by omega) (by omega) (by omega) (by rw [show zx1.toInt = r.toInt + 1 by omega, st2_s (by omega)]; exact Fq)
theorem f_strides {d : Nat} {w : am_W} {V : Nat → Int} (R : RMs w V) (b : Int32) (I : ab_inv ab_TT ab_sets w) : aw none (d + 2) 141 (fun r1 w1 => w = w1 ∧ ∃ z : Int32, r1 = some (.int z) ∧ strP V b.toInt z.toInt) (0, am_entry 141 [.ref 65, .int b], []) w := by
  have J : ab_J ab_TT ab_sets ab_WR2 w w := ⟨I, ab_fr.rf⟩
  show aw none (d + 2) 141 _ (0, [some (.ref 65), some (.int b), none, none, none], []) w
  refine aw_step (f1 := (1, [some (.ref 65), some (.int b), none, none, none], [(.int b)])) (w1 := w) rfl rfl ?_
  refine s_cs (z := 116) (as := [(.int b)]) (st1 := []) 4 rfl rfl rfl rfl rfl rfl (Nat.le_of_ble_eq_true rfl) (Nat.le_of_ble_eq_true rfl) (Nat.le_of_ble_eq_true rfl) (q_areBoots b) ?_
  rintro _ _ ⟨rfl, x1, rfl, x1t⟩
  refine ⟨rfl, ?_⟩
  show aw none _ 141 _ (4, [some (.ref 65), some (.int b), none, none, none], [(.int x1)]) w
  refine s_if 9 7 rfl rfl rfl (fun (h2 : ¬ x1.toInt = 0) => ?_) (fun (h2 : ¬ (¬ x1.toInt = 0)) => ?_)
  · --
    refine s_i (pc1 := 10) (ls1 := [some (.ref 65), some (.int b), none, none, none]) (st1 := []) rfl rfl fun x3 e4 => ?_
    have e4t : x3.toInt = 0 := by rw [e4]; rfl
    refine aw_step (f1 := (11, [some (.ref 65), some (.int b), some (.int x3), none, none], [])) (w1 := w) rfl rfl ?_
    refine s_i (pc1 := 13) (ls1 := [some (.ref 65), some (.int b), some (.int x3), none, none]) (st1 := []) rfl rfl fun x5 e6 => ?_
    have e6t : x5.toInt = -7 := by rw [e6]; rfl
    refine aw_step (f1 := (14, [some (.ref 65), some (.int b), some (.int x3), some (.int x5), none], [])) (w1 := w) rfl rfl ?_
    exact f_strO R b ⟨by omega, by omega⟩ J 16 x3 x5 _ (by omega) (by omega) (by omega) (by rw [show (x5.toInt + 7).toNat = 0 by omega]; show _ = (0 : Int); omega)
  · --
    refine s_i (pc1 := 8) (ls1 := [some (.ref 65), some (.int b), none, none, none]) (st1 := []) rfl rfl fun x7 e8 => ?_
    have e8t : x7.toInt = -1 := by rw [e8]; rfl
    refine aw_ret (v := some (.int x7)) rfl rfl ?_
    exact ⟨rfl, x7, rfl, Or.inl ⟨by omega, by omega⟩⟩
