/-! ===== errands of the model: the numbers ===== -/
noncomputable def dgN (m N k : Nat) : Nat := N / m ^ (m - 1 - k) % m
theorem dgN_lt {m N k : Nat} (h : 0 < m) : dgN m N k < m := Nat.mod_lt _ h
theorem dgN_vl {m N : Nat} (hN : N < m ^ m) : ∀ k, k ≤ m → vl m (dgN m N) k = N / m ^ (m - k)
  | 0, _ => by
    show 0 = N / m ^ (m - 0)
    rw [Nat.sub_zero, Nat.div_eq_of_lt hN]
  | k + 1, hk => by
    show vl m (dgN m N) k * m + N / m ^ (m - 1 - k) % m = N / m ^ (m - (k + 1))
    rw [dgN_vl hN k (by omega), show m - k = m - 1 - k + 1 by omega, Nat.pow_succ, ← Nat.div_div_eq_div_mul, show m - (k + 1) = m - 1 - k by omega, Nat.mul_comm]
    exact Nat.div_add_mod _ _
theorem dgN_v {m N : Nat} (hN : N < m ^ m) : vl m (dgN m N) m = N := by
  rw [dgN_vl hN m (Nat.le_refl _), Nat.sub_self, Nat.pow_zero, Nat.div_one]
theorem pw_5 {m k : Nat} (hm : m ≤ 5) (hk : k ≤ 5) : m ^ k ≤ 3125 := by
  have a : m ^ k ≤ 5 ^ k := Nat.pow_le_pow_left hm k
  have b : 5 ^ k ≤ 5 ^ 5 := Nat.pow_le_pow_right (by decide) hk
  have c : (5 : Nat) ^ 5 = 3125 := rfl
  omega
set_option maxRecDepth 100000 in
theorem t_fu : ∀ m, m < 6 → ∀ h, h < 32 → h < 2 ^ m → (h = 2 ^ m - 1 ↔ ∀ q, q < m → bt h q = 1) := by decide +kernel
theorem t_sh : ∀ m, m < 6 → ((1 : Int32) <<< (Int32.ofNat m &&& 31)).toInt = ((2 ^ m : Nat) : Int) := by decide +kernel
/-- the digits from k on, as a set -/
noncomputable def hdI (m N : Nat) (k : Int) (x : Nat) : Prop := ∀ q, bt x q = 1 ↔ ∃ j : Nat, k < j ∧ j < m ∧ dgN m N j = q
theorem hdI.ye {m N x x' : Nat} {k : Nat} (h : hdI m N k x) (hk : k < m) (e : x' = x ||| 2 ^ dgN m N k) : hdI m N ((k : Int) - 1) x' := fun q => by
  have hq := h q
  have l := bt_le x q
  rw [e, bt_or, bt_pow]
  by_cases u : dgN m N k = q
  · rw [if_pos u]
    exact ⟨fun _ => ⟨k, by omega, hk, u⟩, fun _ => by omega⟩
  · rw [if_neg u]
    constructor
    · intro z
      obtain ⟨j, j1, j2, j3⟩ := hq.mp (by omega)
      exact ⟨j, by omega, j2, j3⟩
    · rintro ⟨j, j1, j2, j3⟩
      have : j ≠ k := fun v => u (by rw [← v]; exact j3)
      have := hq.mpr ⟨j, by omega, j2, j3⟩
      omega
theorem hdI.lt {m N x : Nat} {k : Int} (h : hdI m N k x) : x < 2 ^ m := bt_lt fun j hj => by
  obtain ⟨i, i1, i2, i3⟩ := (h j).mp hj
  have := dgN_lt (m := m) (N := N) (k := i) (by omega)
  omega
theorem hdI.pm {m N x : Nat} (h : hdI m N (-1) x) (hm : m ≤ 5) : x = 2 ^ m - 1 ↔ pmV m (dgN m N) := by
  have a := h.lt
  have b : (2 : Nat) ^ m ≤ 2 ^ 5 := Nat.pow_le_pow_right (by decide) hm
  have c : (2 : Nat) ^ 5 = 32 := rfl
  rw [t_fu m (by omega) x (by omega) a]
  constructor
  · intro u
    refine ⟨fun i hi => dgN_lt (by omega), fun q hq => ?_⟩
    obtain ⟨j, j1, j2, j3⟩ := (h q).mp (u q hq)
    exact ⟨j, j2, j3⟩
  · rintro ⟨-, u⟩ q hq
    obtain ⟨j, j1, j2⟩ := u q hq
    exact (h q).mpr ⟨j, by omega, j1, j2⟩
theorem div_s {m N k : Nat} (hk : k < m) : N / m ^ (m - 1 - k) / m = N / m ^ (m - k) := by
  have e : m - k = (m - 1 - k) + 1 := by omega
  rw [Nat.div_div_eq_div_mul, e, Nat.pow_succ]
/-- a number that is no order is passed over -/
theorem bsE.pa {m N : Nat} {bw : Nat → Int} {B b0 : Int} {best : Int} {bo : Nat → Int} (h : bsE m bw B b0 N best bo) (hN : N < m ^ m) (q : ¬ pmV m (dgN m N)) : bsE m bw B b0 (N + 1) best bo := h.no (by omega) fun g p l1 l2 => by
  have e : vl m g m = vl m (dgN m N) m := by rw [dgN_v hN]; omega
  have m0 : ∀ i, i < m → dgN m N i < m := fun i hi => dgN_lt (by omega)
  exact q (pm_cg (vl_un p.1 m0 e) p)
theorem f_dg {d m : Nat} {Q : Option Value → am_W → Prop} {w00 wq : am_W} (b : Int32) (x : Int64) (i all le nu : Int32) (o11 : Option Value) (hm : m ≤ 5) (hMq : fI wq 65 28 = m) (hnu : 0 ≤ nu.toInt) (K : ∀ (w : am_W) (lf hd k : Int32), ab_J ab_TT ab_sets ab_WR w00 w → only [81] wq w → 0 ≤ hd.toInt → hdI m nu.toInt.toNat (-1) hd.toInt.toNat → (∀ j, j < m → rI w 81 j = dgN m nu.toInt.toNat j) → aw none (d + 3) 155 Q (148, [some (.ref 65), some (.int b), some (.long x), none, some (.int i), some (.int all), some (.int le), some (.int nu), some (.int lf), some (.int hd), some (.int k), o11], []) w) : ∀ (n : Nat) (w : am_W) (lf hd k : Int32), (k.toInt + 1).toNat < n → -1 ≤ k.toInt → k.toInt < m → ab_J ab_TT ab_sets ab_WR w00 w → only [81] wq w → lf.toInt = ((nu.toInt.toNat / m ^ ((m : Int) - 1 - k.toInt).toNat : Nat) : Int) → hdI m nu.toInt.toNat k.toInt hd.toInt.toNat → 0 ≤ hd.toInt → (∀ j : Nat, k.toInt < j → j < m → rI w 81 j = dgN m nu.toInt.toNat j) → aw none (d + 3) 155 Q (100, [some (.ref 65), some (.int b), some (.long x), none, some (.int i), some (.int all), some (.int le), some (.int nu), some (.int lf), some (.int hd), some (.int k), o11], []) w := by
  intro n
  induction n with
  | zero => intro w lf hd k p; omega
  | succ n ih =>
    intro w lf hd k p1 p2 p3 J O hlf hH hh0 F
    have M2 : fI w 65 28 = m := by rw [O.fIe (by decide)]; exact hMq
    have hlb : (0 : Int) ≤ lf.toInt := by rw [hlf]; exact Int.natCast_nonneg _
    have lfa := ab_any32 lf
    unfold ab_lo32 ab_hi32 at lfa
    refine aw_step (f1 := (102, [some (.ref 65), some (.int b), some (.long x), none, some (.int i), some (.int all), some (.int le), some (.int nu), some (.int lf), some (.int hd), some (.int k), o11], [(.int k)])) (w1 := w) rfl rfl ?_
    refine s_if 148 105 rfl rfl rfl (fun (h1 : k.toInt < 0) => ?_) (fun (h1 : ¬ (k.toInt < 0)) => ?_)
    · --
      exact K w lf hd k J O hh0 (by rw [show k.toInt = -1 by omega] at hH; exact hH) (fun j hj => F j (by omega) hj)
    · --
      refine aw_step (f1 := (106, [some (.ref 65), some (.int b), some (.long x), none, some (.int i), some (.int all), some (.int le), some (.int nu), some (.int lf), some (.int hd), some (.int k), o11], [(.ref 65)])) (w1 := w) rfl rfl ?_
      refine s_gr 81 J 109 rfl rfl rfl rfl rfl rfl ?_
      refine aw_step (f1 := (111, [some (.ref 65), some (.int b), some (.long x), none, some (.int i), some (.int all), some (.int le), some (.int nu), some (.int lf), some (.int hd), some (.int k), o11], [(.int k), (.ref 81)])) (w1 := w) rfl rfl ?_
      refine aw_step (f1 := (113, [some (.ref 65), some (.int b), some (.long x), none, some (.int i), some (.int all), some (.int le), some (.int nu), some (.int lf), some (.int hd), some (.int k), o11], [(.int lf), (.int k), (.ref 81)])) (w1 := w) rfl rfl ?_
      refine aw_step (f1 := (114, [some (.ref 65), some (.int b), some (.long x), none, some (.int i), some (.int all), some (.int le), some (.int nu), some (.int lf), some (.int hd), some (.int k), o11], [(.ref 65), (.int lf), (.int k), (.ref 81)])) (w1 := w) rfl rfl ?_
      refine s_gi J 117 rfl rfl rfl rfl rfl rfl fun x2 x2a x2b x2f => ?_
      have x2v : x2.toInt = fI w 65 28 := by rw [← fI_of x2f]
      --
      refine s_dv (f := fun x y => x - x / y * y) 118 rfl rfl (by omega) fun x3 e4 => ?_
      have e4 : x3 = lf - lf / x2 * x2 := e4
      have e4t : x3.toInt = lf.toInt % x2.toInt := by rw [e4]; exact n_rem (by omega) (by omega)
      have hdg : x3.toInt = (dgN m nu.toInt.toNat k.toInt.toNat : Int) := by
        rw [e4t, hlf, show x2.toInt = ((m : Nat) : Int) by omega, show ((m : Int) - 1 - k.toInt).toNat = m - 1 - k.toInt.toNat by omega]
        rfl
      have dl := dgN_lt (m := m) (N := nu.toInt.toNat) (k := k.toInt.toNat) (by omega)
      refine s_is J 119 rfl rfl rfl rfl (by omega) (by omega) (by omega) (by omega) fun w5 J6 w5e => ?_
      have w5f := rI_st J.1 (p := 81) (j := k.toInt.toNat) rfl (by omega) w5e
      --
      refine aw_step (f1 := (121, [some (.ref 65), some (.int b), some (.long x), none, some (.int i), some (.int all), some (.int le), some (.int nu), some (.int lf), some (.int hd), some (.int k), o11], [(.int hd)])) (w1 := w5) rfl rfl ?_
      refine s_i (pc1 := 122) (ls1 := [some (.ref 65), some (.int b), some (.long x), none, some (.int i), some (.int all), some (.int le), some (.int nu), some (.int lf), some (.int hd), some (.int k), o11]) (st1 := [(.int hd)]) rfl rfl fun x7 e8 => ?_
      have e8t : x7.toInt = 1 := by rw [e8]; rfl
      --
      refine aw_step (f1 := (123, [some (.ref 65), some (.int b), some (.long x), none, some (.int i), some (.int all), some (.int le), some (.int nu), some (.int lf), some (.int hd), some (.int k), o11], [(.ref 65), (.int x7), (.int hd)])) (w1 := w5) rfl rfl ?_
      refine s_gr 81 J6 126 rfl rfl rfl rfl rfl rfl ?_
      refine aw_step (f1 := (128, [some (.ref 65), some (.int b), some (.long x), none, some (.int i), some (.int all), some (.int le), some (.int nu), some (.int lf), some (.int hd), some (.int k), o11], [(.int k), (.ref 81), (.int x7), (.int hd)])) (w1 := w5) rfl rfl ?_
      refine s_ia J6 129 rfl rfl rfl rfl (by omega) (by omega) fun x9 x9a x9b x9f => ?_
      --
      have hrv : x9.toInt = (dgN m nu.toInt.toNat k.toInt.toNat : Int) := by rw [← rI_of x9f, w5f.2.1]; exact hdg
      refine s_i (pc1 := 130) (ls1 := [some (.ref 65), some (.int b), some (.long x), none, some (.int i), some (.int all), some (.int le), some (.int nu), some (.int lf), some (.int hd), some (.int k), o11]) (st1 := [(.int hd)]) rfl rfl fun x10 e11 => ?_
      have e11 : x10 = x7 <<< (x9 &&& 31) := e11
      --
      refine s_i (pc1 := 131) (ls1 := [some (.ref 65), some (.int b), some (.long x), none, some (.int i), some (.int all), some (.int le), some (.int nu), some (.int lf), some (.int hd), some (.int k), o11]) (st1 := []) rfl rfl fun x12 e13 => ?_
      have e13 : x12 = hd ||| x10 := e13
      have hdb := hH.lt
      have p2m : (2 : Nat) ^ m ≤ 2 ^ 5 := Nat.pow_le_pow_right (by decide) hm
      have p32 : (2 : Nat) ^ 5 = 32 := rfl
      have hor : x12.toInt = ((hd.toInt.toNat ||| 2 ^ dgN m nu.toInt.toNat k.toInt.toNat : Nat) : Int) := by
        have q := (i_pq (x := hd) (p := x9) (by omega) (by omega) (by omega) (by omega)).1
        rw [show x9.toInt.toNat = dgN m nu.toInt.toNat k.toInt.toNat by omega] at q
        rw [← q, e13, e11, show x7 = 1 from n_1 (by omega)]
      have hH2 : hdI m nu.toInt.toNat ((k.toInt.toNat : Int) - 1) x12.toInt.toNat := by
        refine hdI.ye (x := hd.toInt.toNat) ?_ (by omega) (by omega)
        rw [show ((k.toInt.toNat : Nat) : Int) = k.toInt by omega]
        exact hH
      refine aw_step (f1 := (133, [some (.ref 65), some (.int b), some (.long x), none, some (.int i), some (.int all), some (.int le), some (.int nu), some (.int lf), some (.int x12), some (.int k), o11], [])) (w1 := w5) rfl rfl ?_
      refine aw_step (f1 := (135, [some (.ref 65), some (.int b), some (.long x), none, some (.int i), some (.int all), some (.int le), some (.int nu), some (.int lf), some (.int x12), some (.int k), o11], [(.int lf)])) (w1 := w5) rfl rfl ?_
      refine aw_step (f1 := (136, [some (.ref 65), some (.int b), some (.long x), none, some (.int i), some (.int all), some (.int le), some (.int nu), some (.int lf), some (.int x12), some (.int k), o11], [(.ref 65), (.int lf)])) (w1 := w5) rfl rfl ?_
      refine s_gi J6 139 rfl rfl rfl rfl rfl rfl fun x14 x14a x14b x14f => ?_
      have x14v : x14.toInt = fI w 65 28 := by rw [← fI_of x14f, w5f.1.fIe (by decide)]
      --
      refine s_dv (f := fun x y => x / y) 140 rfl rfl (by omega) fun x15 e16 => ?_
      have e16 : x15 = lf / x14 := e16
      have e16t : x15.toInt = lf.toInt / x14.toInt := by rw [e16]; exact n_div (by omega) (by omega)
      have hl2 : x15.toInt = ((nu.toInt.toNat / m ^ (m - k.toInt.toNat) : Nat) : Int) := by
        rw [e16t, hlf, show x14.toInt = ((m : Nat) : Int) by omega, show ((m : Int) - 1 - k.toInt).toNat = m - 1 - k.toInt.toNat by omega, ← div_s (by omega)]
        rfl
      refine aw_step (f1 := (142, [some (.ref 65), some (.int b), some (.long x), none, some (.int i), some (.int all), some (.int le), some (.int nu), some (.int x15), some (.int x12), some (.int k), o11], [])) (w1 := w5) rfl rfl ?_
      refine aw_step (f1 := (145, [some (.ref 65), some (.int b), some (.long x), none, some (.int i), some (.int all), some (.int le), some (.int nu), some (.int x15), some (.int x12), some (.int (k + Int32.ofInt (-1))), o11], [])) (w1 := w5) rfl rfl ?_
      obtain ⟨x17, x17e⟩ : ∃ z, z = (k + Int32.ofInt (-1)) := ⟨_, rfl⟩
      have x17t : x17.toInt = k.toInt + (-1) := by rw [x17e]; exact n_add (y := Int32.ofInt (-1)) (by show _ ≤ _ + (-1 : Int); omega) (by show _ + (-1 : Int) ≤ _; omega)
      rw [← x17e]
      refine aw_step (f1 := (100, [some (.ref 65), some (.int b), some (.long x), none, some (.int i), some (.int all), some (.int le), some (.int nu), some (.int x15), some (.int x12), some (.int x17), o11], [])) (w1 := w5) rfl rfl ?_
      refine ih w5 x15 x12 x17 (by omega) (by omega) (by omega) J6 (O.trans (oc w5f.1 (by decide))) ?_ ?_ ?_ ?_
      · rw [hl2, show ((m : Int) - 1 - x17.toInt).toNat = m - k.toInt.toNat by omega]
      · rw [show x17.toInt = (k.toInt.toNat : Int) - 1 by omega]; exact hH2
      · omega
      · intro j j1 j2
        by_cases e : j = k.toInt.toNat
        · rw [e, w5f.2.1]; exact hdg
        · rw [w5f.2.2 j e]; exact F j (by omega) j2
theorem f_ecp {d m : Nat} {Q : Option Value → am_W → Prop} {w00 wb : am_W} (b : Int32) (x : Int64) (i all le nu lf hd is : Int32) (hm : m ≤ 5) (hMq : fI wb 65 28 = m) (K : ∀ (w : am_W) (q : Int32), ab_J ab_TT ab_sets ab_WR w00 w → only [82] wb w → (∀ j, j < m → rI w 82 j = rI wb 81 j) → aw none (d + 3) 155 Q (215, [some (.ref 65), some (.int b), some (.long x), none, some (.int i), some (.int all), some (.int le), some (.int nu), some (.int lf), some (.int hd), some (.int is), some (.int q)], []) w) : ∀ (n : Nat) (w : am_W) (q : Int32), ((m : Int) - q.toInt).toNat < n → 0 ≤ q.toInt → q.toInt ≤ m → ab_J ab_TT ab_sets ab_WR w00 w → only [82] wb w → (∀ j : Nat, (j : Int) < q.toInt → rI w 82 j = rI wb 81 j) → aw none (d + 3) 155 Q (186, [some (.ref 65), some (.int b), some (.long x), none, some (.int i), some (.int all), some (.int le), some (.int nu), some (.int lf), some (.int hd), some (.int is), some (.int q)], []) w := by
  intro n
  induction n with
  | zero => intro w q p; omega
  | succ n ih =>
    intro w q p1 p2 p3 J O F
    have M2 : fI w 65 28 = m := by rw [O.fIe (by decide)]; exact hMq
    refine aw_step (f1 := (188, [some (.ref 65), some (.int b), some (.long x), none, some (.int i), some (.int all), some (.int le), some (.int nu), some (.int lf), some (.int hd), some (.int is), some (.int q)], [(.int q)])) (w1 := w) rfl rfl ?_
    refine aw_step (f1 := (189, [some (.ref 65), some (.int b), some (.long x), none, some (.int i), some (.int all), some (.int le), some (.int nu), some (.int lf), some (.int hd), some (.int is), some (.int q)], [(.ref 65), (.int q)])) (w1 := w) rfl rfl ?_
    refine s_gi J 192 rfl rfl rfl rfl rfl rfl fun x1 x1a x1b x1f => ?_
    have x1v : x1.toInt = fI w 65 28 := by rw [← fI_of x1f]
    refine s_ic 215 195 rfl rfl rfl (fun (h2 : x1.toInt ≤ q.toInt) => ?_) (fun (h2 : ¬ (x1.toInt ≤ q.toInt)) => ?_)
    · --
      exact K w q J O (fun j hj => F j (by omega))
    · --
      refine aw_step (f1 := (196, [some (.ref 65), some (.int b), some (.long x), none, some (.int i), some (.int all), some (.int le), some (.int nu), some (.int lf), some (.int hd), some (.int is), some (.int q)], [(.ref 65)])) (w1 := w) rfl rfl ?_
      refine s_gr 82 J 199 rfl rfl rfl rfl rfl rfl ?_
      refine aw_step (f1 := (201, [some (.ref 65), some (.int b), some (.long x), none, some (.int i), some (.int all), some (.int le), some (.int nu), some (.int lf), some (.int hd), some (.int is), some (.int q)], [(.int q), (.ref 82)])) (w1 := w) rfl rfl ?_
      refine aw_step (f1 := (202, [some (.ref 65), some (.int b), some (.long x), none, some (.int i), some (.int all), some (.int le), some (.int nu), some (.int lf), some (.int hd), some (.int is), some (.int q)], [(.ref 65), (.int q), (.ref 82)])) (w1 := w) rfl rfl ?_
      refine s_gr 81 J 205 rfl rfl rfl rfl rfl rfl ?_
      refine aw_step (f1 := (207, [some (.ref 65), some (.int b), some (.long x), none, some (.int i), some (.int all), some (.int le), some (.int nu), some (.int lf), some (.int hd), some (.int is), some (.int q)], [(.int q), (.ref 81), (.int q), (.ref 82)])) (w1 := w) rfl rfl ?_
      refine s_ia J 208 rfl rfl rfl rfl (by omega) (by omega) fun x3 x3a x3b x3f => ?_
      have x3v : x3.toInt = rI w 81 q.toInt.toNat := by rw [← rI_of x3f]
      have hrd : x3.toInt = rI wb 81 q.toInt.toNat := by rw [x3v]; exact O.rIe (by decide)
      refine s_is J 209 rfl rfl rfl rfl (by omega) (by omega) (by omega) (by omega) fun w4 J5 w4e => ?_
      have w4f := rI_st J.1 (p := 82) (j := q.toInt.toNat) rfl (by omega) w4e
      refine aw_step (f1 := (212, [some (.ref 65), some (.int b), some (.long x), none, some (.int i), some (.int all), some (.int le), some (.int nu), some (.int lf), some (.int hd), some (.int is), some (.int (q + Int32.ofInt 1))], [])) (w1 := w4) rfl rfl ?_
      obtain ⟨x6, x6e⟩ : ∃ z, z = (q + Int32.ofInt 1) := ⟨_, rfl⟩
      have x6t : x6.toInt = q.toInt + (1) := by rw [x6e]; exact n_add (y := Int32.ofInt (1)) (by show _ ≤ _ + (1 : Int); omega) (by show _ + (1 : Int) ≤ _; omega)
      rw [← x6e]
      refine aw_step (f1 := (186, [some (.ref 65), some (.int b), some (.long x), none, some (.int i), some (.int all), some (.int le), some (.int nu), some (.int lf), some (.int hd), some (.int is), some (.int x6)], [])) (w1 := w4) rfl rfl ?_
      refine ih w4 x6 (by omega) (by omega) (by omega) J5 (O.trans w4f.1) (fun j hj => ?_)
      by_cases e : j = q.toInt.toNat
      · rw [e, w4f.2.1, hrd]
      · rw [w4f.2.2 j e]; exact F j (by omega)
theorem f_enu {d m : Nat} {w00 wq : am_W} {V : Nat → Int} {L : Int} (hz : szV V ≤ 36) (b : Int32) (x : Int64) (i all : Int32) (hm : m ≤ 5) (hmx : m = cnt (n64 x) 64) (hall : all.toInt = ((m ^ m : Nat) : Int)) (hMq : fI wq 65 28 = m) (Iq : ab_inv ab_TT ab_sets wq) (PLq : plE V (n64 x) m (rI wq 79)) (BM : bmV V L m (rI wq 79) (rI wq 80)) (SAT : ∀ a, a ≤ m → satV V L (rI wq 79 a).toNat) (hld : ∀ q, q ≤ m → (((rI wq 79 q).toNat : Nat) : Int) < szV V ∧ V (40 + (rI wq 79 q).toNat) ≠ 126) : ∀ (n : Nat) (w : am_W) (le nu : Int32) (o8 o9 o10 o11 : Option Value), (all.toInt - nu.toInt).toNat < n → 0 ≤ nu.toInt → nu.toInt ≤ all.toInt → (0 ≤ le.toInt ∧ le.toInt ≤ 100000) → ab_J ab_TT ab_sets ab_WR w00 w → only [81, 82] wq w → bsE m (rI wq 80) 100000 100000 nu.toInt.toNat le.toInt (rI w 82) → aw none (d + 3) 155 (fun r w1 => ab_J ab_TT ab_sets ab_WR w00 w1 ∧ ∃ z : Int32, r = some (.int z) ∧ erW V L (n64 x) i.toInt z.toInt) (78, [some (.ref 65), some (.int b), some (.long x), none, some (.int i), some (.int all), some (.int le), some (.int nu), o8, o9, o10, o11], []) w := by
  have pw := pw_5 hm hm
  have nbs : ∀ f, pmV m f → SS m (rI wq 80) f < 100000 → SS m (rI wq 80) f ≠ 100000 := fun f _ h => by omega
  intro n
  induction n with
  | zero => intro w le nu o8 o9 o10 o11 p; omega
  | succ n ih =>
    intro w le nu o8 o9 o10 o11 p1 p2 p3 p4 J O B
    have M2 : fI w 65 28 = m := by rw [O.fIe (by decide)]; exact hMq
    refine aw_step (f1 := (80, [some (.ref 65), some (.int b), some (.long x), none, some (.int i), some (.int all), some (.int le), some (.int nu), o8, o9, o10, o11], [(.int nu)])) (w1 := w) rfl rfl ?_
    refine aw_step (f1 := (82, [some (.ref 65), some (.int b), some (.long x), none, some (.int i), some (.int all), some (.int le), some (.int nu), o8, o9, o10, o11], [(.int all), (.int nu)])) (w1 := w) rfl rfl ?_
    refine s_ic 221 85 rfl rfl rfl (fun (h1 : all.toInt ≤ nu.toInt) => ?_) (fun (h1 : ¬ (all.toInt ≤ nu.toInt)) => ?_)
    · --
      refine aw_step (f1 := (223, [some (.ref 65), some (.int b), some (.long x), none, some (.int i), some (.int all), some (.int le), some (.int nu), o8, o9, o10, o11], [(.int le)])) (w1 := w) rfl rfl ?_
      refine s_i (pc1 := 225) (ls1 := [some (.ref 65), some (.int b), some (.long x), none, some (.int i), some (.int all), some (.int le), some (.int nu), o8, o9, o10, o11]) (st1 := [(.int le)]) rfl rfl fun x2 e3 => ?_
      have e3t : x2.toInt = 100000 := by rw [e3]; rfl
      refine s_ic 234 228 rfl rfl rfl (fun (h4 : le.toInt = x2.toInt) => ?_) (fun (h4 : ¬ (le.toInt = x2.toInt)) => ?_)
      · --
        refine aw_step (f1 := (236, [some (.ref 65), some (.int b), some (.long x), none, some (.int i), some (.int all), some (.int le), some (.int nu), o8, o9, o10, o11], [(.int le)])) (w1 := w) rfl rfl ?_
        refine s_i (pc1 := 238) (ls1 := [some (.ref 65), some (.int b), some (.long x), none, some (.int i), some (.int all), some (.int le), some (.int nu), o8, o9, o10, o11]) (st1 := [(.int le)]) rfl rfl fun x5 e6 => ?_
        have e6t : x5.toInt = 100000 := by rw [e6]; rfl
        refine s_ic 246 241 rfl rfl rfl (fun (h7 : ¬ le.toInt = x5.toInt) => ?_) (fun (h7 : ¬ (¬ le.toInt = x5.toInt)) => ?_)
        · --
          refine aw_step (f1 := (248, [some (.ref 65), some (.int b), some (.long x), none, some (.int i), some (.int all), some (.int le), some (.int nu), o8, o9, o10, o11], [(.int le)])) (w1 := w) rfl rfl ?_
          refine aw_ret (v := some (.int le)) rfl rfl ?_
          have bE := B
          rw [show nu.toInt.toNat = m ^ m by omega] at bE
          have bw0 : bwV V L m (rI wq 79) (fun i => nn (rI wq 80 i)) := BM
          have r79 : ∀ q, rI w 79 q = rI wq 79 q := fun q => O.rIe (by decide)
          have bb : ∀ a b, a ≤ m → b ≤ m → 0 ≤ rI wq 80 (6 * a + b) ∧ rI wq 80 (6 * a + b) ≤ 100000 := fun a b ha hb => rI_in Iq (p := 80) rfl (by omega)
          refine ⟨J, le, rfl, m, rI wq 79, fun i => nn (rI wq 80 i), ⟨hmx, hm⟩, PLq, bw0, ?_⟩
          rcases bE with ⟨q1, q2⟩ | ⟨g, g1, g2, g3, g4, g5, g6⟩
          · have ne : (∃ a b, a ≤ m ∧ b ≤ m ∧ nn (rI wq 80 (6 * a + b)) = -6) ∨ ∀ g, ¬ pmV m g := by
              apply Classical.byContradiction
              intro z
              have zc : ∀ a b, a ≤ m → b ≤ m → nn (rI wq 80 (6 * a + b)) ≠ -6 := fun a b ha hb e => z (Or.inl ⟨a, b, ha, hb, e⟩)
              apply z
              refine Or.inr fun g pg => ?_
              have hq := q2 g pg (vl_lt pg.1)
              have b36 : ∀ i j, i ≤ m → j ≤ m → 0 ≤ rI wq 80 (6 * i + j) ∧ rI wq 80 (6 * i + j) ≤ 36 := fun i j hi hj => by
                have u := (BM i j hi hj).b
                have v9 := zc i j hi hj
                by_cases e : rI wq 80 (6 * i + j) = 100000
                · exact absurd (nn_y e) v9
                · rw [nn_n e] at u v9; omega
              have sb := ss_b (m := m) (a := rI wq 80) (B := 36) pg.1 b36 (k := m) (Nat.le_refl _)
              have lb := b36 (pvo m g m) m (pvo_le pg.1 (Nat.le_refl _)) (Nat.le_refl _)
              unfold SS at hq
              omega
            first
              | exact Or.inl ⟨by clear ne; omega, ne⟩
              | (exfalso; clear ne; omega)
          · have con := leg_con (by omega) (fun a b ha hb => (bb a b ha hb).1) BM SAT hld g1 g3
            have eqv : ∀ i j, i ≤ m → j ≤ m → rI wq 80 (6 * i + j) = (fun i => nn (rI wq 80 i)) (6 * i + j) := fun i j hi hj => by
              show _ = nn (rI wq 80 (6 * i + j))
              by_cases e : rI wq 80 (6 * i + j) = 100000
              · exact absurd (nn_y e) (con i j hi hj)
              · rw [nn_n e]
            have op : opE m (fun i => nn (rI wq 80 i)) g := ⟨g1, fun h p => by
              have u := g6 h p (vl_lt p.1)
              rw [SS_eq (a := rI wq 80) (b := fun i => nn (rI wq 80 i)) g1.1 eqv, SS_eq (a := rI wq 80) (b := fun i => nn (rI wq 80 i)) p.1 eqv] at u
              exact u⟩
            have sg := SS_eq (a := rI wq 80) (b := fun i => nn (rI wq 80 i)) g1.1 eqv
            refine Or.inr ⟨con, g, op, ?_⟩
            first
              | (exfalso; omega)
              | exact Or.inl ⟨by omega, by rw [← sg]; omega⟩
              | exact Or.inr (Or.inr ⟨by omega, by omega, by omega⟩)
              | exact Or.inr (Or.inl ⟨by omega, ⟨by omega, by omega⟩, by
                  have e2 := g5 i.toInt.toNat (by omega)
                  rw [lev, zzv, r79, e2]
                  rfl⟩)
        · --
          refine s_i (pc1 := 243) (ls1 := [some (.ref 65), some (.int b), some (.long x), none, some (.int i), some (.int all), some (.int le), some (.int nu), o8, o9, o10, o11]) (st1 := []) rfl rfl fun x8 e9 => ?_
          have e9t : x8.toInt = -6 := by rw [e9]; rfl
          refine aw_step (f1 := (248, [some (.ref 65), some (.int b), some (.long x), none, some (.int i), some (.int all), some (.int le), some (.int nu), o8, o9, o10, o11], [(.int x8)])) (w1 := w) rfl rfl ?_
          refine aw_ret (v := some (.int x8)) rfl rfl ?_
          have bE := B
          rw [show nu.toInt.toNat = m ^ m by omega] at bE
          have bw0 : bwV V L m (rI wq 79) (fun i => nn (rI wq 80 i)) := BM
          have r79 : ∀ q, rI w 79 q = rI wq 79 q := fun q => O.rIe (by decide)
          have bb : ∀ a b, a ≤ m → b ≤ m → 0 ≤ rI wq 80 (6 * a + b) ∧ rI wq 80 (6 * a + b) ≤ 100000 := fun a b ha hb => rI_in Iq (p := 80) rfl (by omega)
          refine ⟨J, x8, rfl, m, rI wq 79, fun i => nn (rI wq 80 i), ⟨hmx, hm⟩, PLq, bw0, ?_⟩
          rcases bE with ⟨q1, q2⟩ | ⟨g, g1, g2, g3, g4, g5, g6⟩
          · have ne : (∃ a b, a ≤ m ∧ b ≤ m ∧ nn (rI wq 80 (6 * a + b)) = -6) ∨ ∀ g, ¬ pmV m g := by
              apply Classical.byContradiction
              intro z
              have zc : ∀ a b, a ≤ m → b ≤ m → nn (rI wq 80 (6 * a + b)) ≠ -6 := fun a b ha hb e => z (Or.inl ⟨a, b, ha, hb, e⟩)
              apply z
              refine Or.inr fun g pg => ?_
              have hq := q2 g pg (vl_lt pg.1)
              have b36 : ∀ i j, i ≤ m → j ≤ m → 0 ≤ rI wq 80 (6 * i + j) ∧ rI wq 80 (6 * i + j) ≤ 36 := fun i j hi hj => by
                have u := (BM i j hi hj).b
                have v9 := zc i j hi hj
                by_cases e : rI wq 80 (6 * i + j) = 100000
                · exact absurd (nn_y e) v9
                · rw [nn_n e] at u v9; omega
              have sb := ss_b (m := m) (a := rI wq 80) (B := 36) pg.1 b36 (k := m) (Nat.le_refl _)
              have lb := b36 (pvo m g m) m (pvo_le pg.1 (Nat.le_refl _)) (Nat.le_refl _)
              unfold SS at hq
              omega
            first
              | exact Or.inl ⟨by clear ne; omega, ne⟩
              | (exfalso; clear ne; omega)
          · have con := leg_con (by omega) (fun a b ha hb => (bb a b ha hb).1) BM SAT hld g1 g3
            have eqv : ∀ i j, i ≤ m → j ≤ m → rI wq 80 (6 * i + j) = (fun i => nn (rI wq 80 i)) (6 * i + j) := fun i j hi hj => by
              show _ = nn (rI wq 80 (6 * i + j))
              by_cases e : rI wq 80 (6 * i + j) = 100000
              · exact absurd (nn_y e) (con i j hi hj)
              · rw [nn_n e]
            have op : opE m (fun i => nn (rI wq 80 i)) g := ⟨g1, fun h p => by
              have u := g6 h p (vl_lt p.1)
              rw [SS_eq (a := rI wq 80) (b := fun i => nn (rI wq 80 i)) g1.1 eqv, SS_eq (a := rI wq 80) (b := fun i => nn (rI wq 80 i)) p.1 eqv] at u
              exact u⟩
            have sg := SS_eq (a := rI wq 80) (b := fun i => nn (rI wq 80 i)) g1.1 eqv
            refine Or.inr ⟨con, g, op, ?_⟩
            first
              | (exfalso; omega)
              | exact Or.inl ⟨by omega, by rw [← sg]; omega⟩
              | exact Or.inr (Or.inr ⟨by omega, by omega, by omega⟩)
              | exact Or.inr (Or.inl ⟨by omega, ⟨by omega, by omega⟩, by
                  have e2 := g5 i.toInt.toNat (by omega)
                  rw [x8v, zzv, r79, e2]
                  rfl⟩)
      · --
        refine aw_step (f1 := (230, [some (.ref 65), some (.int b), some (.long x), none, some (.int i), some (.int all), some (.int le), some (.int nu), o8, o9, o10, o11], [(.int i)])) (w1 := w) rfl rfl ?_
        refine s_i (pc1 := 231) (ls1 := [some (.ref 65), some (.int b), some (.long x), none, some (.int i), some (.int all), some (.int le), some (.int nu), o8, o9, o10, o11]) (st1 := [(.int i)]) rfl rfl fun x10 e11 => ?_
        have e11t : x10.toInt = -1 := by rw [e11]; rfl
        refine s_ic 249 234 rfl rfl rfl (fun (h12 : ¬ i.toInt = x10.toInt) => ?_) (fun (h12 : ¬ (¬ i.toInt = x10.toInt)) => ?_)
        · --
          refine aw_step (f1 := (251, [some (.ref 65), some (.int b), some (.long x), none, some (.int i), some (.int all), some (.int le), some (.int nu), o8, o9, o10, o11], [(.int i)])) (w1 := w) rfl rfl ?_
          refine s_l (pc1 := 252) (ls1 := [some (.ref 65), some (.int b), some (.long x), none, some (.int i), some (.int all), some (.int le), some (.int nu), o8, o9, o10, o11]) (st1 := []) rfl rfl fun y13 e14 => ?_
          have e14t : y13.toInt = i.toInt := by rw [e14]; exact Int32.toInt_toInt64 i
          refine s_l (pc1 := 253) (ls1 := [some (.ref 65), some (.int b), some (.long x), none, some (.int i), some (.int all), some (.int le), some (.int nu), o8, o9, o10, o11]) (st1 := [(.long y13)]) rfl rfl fun y15 e16 => ?_
          have e16t : y15.toInt = 0 := by rw [e16]; rfl
          refine aw_step (f1 := (254, [some (.ref 65), some (.int b), some (.long x), none, some (.int i), some (.int all), some (.int le), some (.int nu), o8, o9, o10, o11], [(.ref 65), (.long y15), (.long y13)])) (w1 := w) rfl rfl ?_
          refine s_gi J 257 rfl rfl rfl rfl rfl rfl fun x17 x17a x17b x17f => ?_
          have x17v : x17.toInt = fI w 65 28 := by rw [← fI_of x17f]
          refine s_i (pc1 := 258) (ls1 := [some (.ref 65), some (.int b), some (.long x), none, some (.int i), some (.int all), some (.int le), some (.int nu), o8, o9, o10, o11]) (st1 := [(.int x17), (.long y15), (.long y13)]) rfl rfl fun x18 e19 => ?_
          have e19t : x18.toInt = 1 := by rw [e19]; rfl
          refine s_i (pc1 := 259) (ls1 := [some (.ref 65), some (.int b), some (.long x), none, some (.int i), some (.int all), some (.int le), some (.int nu), o8, o9, o10, o11]) (st1 := [(.long y15), (.long y13)]) rfl rfl fun x20 e21 => ?_
          have e21 : x20 = x17 - x18 := e21
          have e21t : x20.toInt = x17.toInt - x18.toInt := by rw [e21]; exact n_sub (by omega) (by omega)
          refine s_l (pc1 := 260) (ls1 := [some (.ref 65), some (.int b), some (.long x), none, some (.int i), some (.int all), some (.int le), some (.int nu), o8, o9, o10, o11]) (st1 := [(.long y15), (.long y13)]) rfl rfl fun y22 e23 => ?_
          have e23t : y22.toInt = x20.toInt := by rw [e23]; exact Int32.toInt_toInt64 x20
          refine s_cs (z := 108) (as := [(.long y13), (.long y15), (.long y22)]) (st1 := []) 263 rfl rfl rfl rfl rfl rfl (Nat.le_of_ble_eq_true rfl) (Nat.le_of_ble_eq_true rfl) (Nat.le_of_ble_eq_true rfl) (q_in2 y13 y15 y22) ?_
          rintro _ _ ⟨rfl, x24, rfl, x24t⟩
          refine ⟨rfl, ?_⟩
          show aw none _ 155 _ (263, [some (.ref 65), some (.int b), some (.long x), none, some (.int i), some (.int all), some (.int le), some (.int nu), o8, o9, o10, o11], [(.int x24)]) w
          refine s_if 281 266 rfl rfl rfl (fun (h25 : x24.toInt = 0) => ?_) (fun (h25 : ¬ (x24.toInt = 0)) => ?_)
          · --
            refine s_i (pc1 := 283) (ls1 := [some (.ref 65), some (.int b), some (.long x), none, some (.int i), some (.int all), some (.int le), some (.int nu), o8, o9, o10, o11]) (st1 := []) rfl rfl fun x26 e27 => ?_
            have e27t : x26.toInt = -6 := by rw [e27]; rfl
            refine aw_ret (v := some (.int x26)) rfl rfl ?_
            have bE := B
            rw [show nu.toInt.toNat = m ^ m by omega] at bE
            have bw0 : bwV V L m (rI wq 79) (fun i => nn (rI wq 80 i)) := BM
            have r79 : ∀ q, rI w 79 q = rI wq 79 q := fun q => O.rIe (by decide)
            have bb : ∀ a b, a ≤ m → b ≤ m → 0 ≤ rI wq 80 (6 * a + b) ∧ rI wq 80 (6 * a + b) ≤ 100000 := fun a b ha hb => rI_in Iq (p := 80) rfl (by omega)
            refine ⟨J, x26, rfl, m, rI wq 79, fun i => nn (rI wq 80 i), ⟨hmx, hm⟩, PLq, bw0, ?_⟩
            rcases bE with ⟨q1, q2⟩ | ⟨g, g1, g2, g3, g4, g5, g6⟩
            · have ne : (∃ a b, a ≤ m ∧ b ≤ m ∧ nn (rI wq 80 (6 * a + b)) = -6) ∨ ∀ g, ¬ pmV m g := by
                apply Classical.byContradiction
                intro z
                have zc : ∀ a b, a ≤ m → b ≤ m → nn (rI wq 80 (6 * a + b)) ≠ -6 := fun a b ha hb e => z (Or.inl ⟨a, b, ha, hb, e⟩)
                apply z
                refine Or.inr fun g pg => ?_
                have hq := q2 g pg (vl_lt pg.1)
                have b36 : ∀ i j, i ≤ m → j ≤ m → 0 ≤ rI wq 80 (6 * i + j) ∧ rI wq 80 (6 * i + j) ≤ 36 := fun i j hi hj => by
                  have u := (BM i j hi hj).b
                  have v9 := zc i j hi hj
                  by_cases e : rI wq 80 (6 * i + j) = 100000
                  · exact absurd (nn_y e) v9
                  · rw [nn_n e] at u v9; omega
                have sb := ss_b (m := m) (a := rI wq 80) (B := 36) pg.1 b36 (k := m) (Nat.le_refl _)
                have lb := b36 (pvo m g m) m (pvo_le pg.1 (Nat.le_refl _)) (Nat.le_refl _)
                unfold SS at hq
                omega
              first
                | exact Or.inl ⟨by clear ne; omega, ne⟩
                | (exfalso; clear ne; omega)
            · have con := leg_con (by omega) (fun a b ha hb => (bb a b ha hb).1) BM SAT hld g1 g3
              have eqv : ∀ i j, i ≤ m → j ≤ m → rI wq 80 (6 * i + j) = (fun i => nn (rI wq 80 i)) (6 * i + j) := fun i j hi hj => by
                show _ = nn (rI wq 80 (6 * i + j))
                by_cases e : rI wq 80 (6 * i + j) = 100000
                · exact absurd (nn_y e) (con i j hi hj)
                · rw [nn_n e]
              have op : opE m (fun i => nn (rI wq 80 i)) g := ⟨g1, fun h p => by
                have u := g6 h p (vl_lt p.1)
                rw [SS_eq (a := rI wq 80) (b := fun i => nn (rI wq 80 i)) g1.1 eqv, SS_eq (a := rI wq 80) (b := fun i => nn (rI wq 80 i)) p.1 eqv] at u
                exact u⟩
              have sg := SS_eq (a := rI wq 80) (b := fun i => nn (rI wq 80 i)) g1.1 eqv
              refine Or.inr ⟨con, g, op, ?_⟩
              first
                | (exfalso; omega)
                | exact Or.inl ⟨by omega, by rw [← sg]; omega⟩
                | exact Or.inr (Or.inr ⟨by omega, by omega, by omega⟩)
                | exact Or.inr (Or.inl ⟨by omega, ⟨by omega, by omega⟩, by
                    have e2 := g5 i.toInt.toNat (by omega)
                    rw [x26v, zzv, r79, e2]
                    rfl⟩)
          · --
            refine aw_step (f1 := (267, [some (.ref 65), some (.int b), some (.long x), none, some (.int i), some (.int all), some (.int le), some (.int nu), o8, o9, o10, o11], [(.ref 65)])) (w1 := w) rfl rfl ?_
            refine s_gr 79 J 270 rfl rfl rfl rfl rfl rfl ?_
            refine aw_step (f1 := (271, [some (.ref 65), some (.int b), some (.long x), none, some (.int i), some (.int all), some (.int le), some (.int nu), o8, o9, o10, o11], [(.ref 65), (.ref 79)])) (w1 := w) rfl rfl ?_
            refine s_gr 82 J 274 rfl rfl rfl rfl rfl rfl ?_
            refine aw_step (f1 := (276, [some (.ref 65), some (.int b), some (.long x), none, some (.int i), some (.int all), some (.int le), some (.int nu), o8, o9, o10, o11], [(.int i), (.ref 82), (.ref 79)])) (w1 := w) rfl rfl ?_
            refine s_ia J 277 rfl rfl rfl rfl (by omega) (by omega) fun x28 x28a x28b x28f => ?_
            have x28v : x28.toInt = rI w 82 i.toInt.toNat := by rw [← rI_of x28f]
            --
            refine s_ia J 278 rfl rfl rfl rfl (by omega) (by omega) fun x29 x29a x29b x29f => ?_
            have x29v : x29.toInt = rI w 79 x28.toInt.toNat := by rw [← rI_of x29f]
            refine aw_step (f1 := (283, [some (.ref 65), some (.int b), some (.long x), none, some (.int i), some (.int all), some (.int le), some (.int nu), o8, o9, o10, o11], [(.int x29)])) (w1 := w) rfl rfl ?_
            refine aw_ret (v := some (.int x29)) rfl rfl ?_
            have bE := B
            rw [show nu.toInt.toNat = m ^ m by omega] at bE
            have bw0 : bwV V L m (rI wq 79) (fun i => nn (rI wq 80 i)) := BM
            have r79 : ∀ q, rI w 79 q = rI wq 79 q := fun q => O.rIe (by decide)
            have bb : ∀ a b, a ≤ m → b ≤ m → 0 ≤ rI wq 80 (6 * a + b) ∧ rI wq 80 (6 * a + b) ≤ 100000 := fun a b ha hb => rI_in Iq (p := 80) rfl (by omega)
            refine ⟨J, x29, rfl, m, rI wq 79, fun i => nn (rI wq 80 i), ⟨hmx, hm⟩, PLq, bw0, ?_⟩
            rcases bE with ⟨q1, q2⟩ | ⟨g, g1, g2, g3, g4, g5, g6⟩
            · have ne : (∃ a b, a ≤ m ∧ b ≤ m ∧ nn (rI wq 80 (6 * a + b)) = -6) ∨ ∀ g, ¬ pmV m g := by
                apply Classical.byContradiction
                intro z
                have zc : ∀ a b, a ≤ m → b ≤ m → nn (rI wq 80 (6 * a + b)) ≠ -6 := fun a b ha hb e => z (Or.inl ⟨a, b, ha, hb, e⟩)
                apply z
                refine Or.inr fun g pg => ?_
                have hq := q2 g pg (vl_lt pg.1)
                have b36 : ∀ i j, i ≤ m → j ≤ m → 0 ≤ rI wq 80 (6 * i + j) ∧ rI wq 80 (6 * i + j) ≤ 36 := fun i j hi hj => by
                  have u := (BM i j hi hj).b
                  have v9 := zc i j hi hj
                  by_cases e : rI wq 80 (6 * i + j) = 100000
                  · exact absurd (nn_y e) v9
                  · rw [nn_n e] at u v9; omega
                have sb := ss_b (m := m) (a := rI wq 80) (B := 36) pg.1 b36 (k := m) (Nat.le_refl _)
                have lb := b36 (pvo m g m) m (pvo_le pg.1 (Nat.le_refl _)) (Nat.le_refl _)
                unfold SS at hq
                omega
              first
                | exact Or.inl ⟨by clear ne; omega, ne⟩
                | (exfalso; clear ne; omega)
            · have con := leg_con (by omega) (fun a b ha hb => (bb a b ha hb).1) BM SAT hld g1 g3
              have eqv : ∀ i j, i ≤ m → j ≤ m → rI wq 80 (6 * i + j) = (fun i => nn (rI wq 80 i)) (6 * i + j) := fun i j hi hj => by
                show _ = nn (rI wq 80 (6 * i + j))
                by_cases e : rI wq 80 (6 * i + j) = 100000
                · exact absurd (nn_y e) (con i j hi hj)
                · rw [nn_n e]
              have op : opE m (fun i => nn (rI wq 80 i)) g := ⟨g1, fun h p => by
                have u := g6 h p (vl_lt p.1)
                rw [SS_eq (a := rI wq 80) (b := fun i => nn (rI wq 80 i)) g1.1 eqv, SS_eq (a := rI wq 80) (b := fun i => nn (rI wq 80 i)) p.1 eqv] at u
                exact u⟩
              have sg := SS_eq (a := rI wq 80) (b := fun i => nn (rI wq 80 i)) g1.1 eqv
              refine Or.inr ⟨con, g, op, ?_⟩
              first
                | (exfalso; omega)
                | exact Or.inl ⟨by omega, by rw [← sg]; omega⟩
                | exact Or.inr (Or.inr ⟨by omega, by omega, by omega⟩)
                | exact Or.inr (Or.inl ⟨by omega, ⟨by omega, by omega⟩, by
                    have e2 := g5 i.toInt.toNat (by omega)
                    rw [x29v, x28v, r79, e2]
                    rfl⟩)
        · --
          refine aw_step (f1 := (236, [some (.ref 65), some (.int b), some (.long x), none, some (.int i), some (.int all), some (.int le), some (.int nu), o8, o9, o10, o11], [(.int le)])) (w1 := w) rfl rfl ?_
          refine s_i (pc1 := 238) (ls1 := [some (.ref 65), some (.int b), some (.long x), none, some (.int i), some (.int all), some (.int le), some (.int nu), o8, o9, o10, o11]) (st1 := [(.int le)]) rfl rfl fun x30 e31 => ?_
          have e31t : x30.toInt = 100000 := by rw [e31]; rfl
          refine s_ic 246 241 rfl rfl rfl (fun (h32 : ¬ le.toInt = x30.toInt) => ?_) (fun (h32 : ¬ (¬ le.toInt = x30.toInt)) => ?_)
          · --
            refine aw_step (f1 := (248, [some (.ref 65), some (.int b), some (.long x), none, some (.int i), some (.int all), some (.int le), some (.int nu), o8, o9, o10, o11], [(.int le)])) (w1 := w) rfl rfl ?_
            refine aw_ret (v := some (.int le)) rfl rfl ?_
            have bE := B
            rw [show nu.toInt.toNat = m ^ m by omega] at bE
            have bw0 : bwV V L m (rI wq 79) (fun i => nn (rI wq 80 i)) := BM
            have r79 : ∀ q, rI w 79 q = rI wq 79 q := fun q => O.rIe (by decide)
            have bb : ∀ a b, a ≤ m → b ≤ m → 0 ≤ rI wq 80 (6 * a + b) ∧ rI wq 80 (6 * a + b) ≤ 100000 := fun a b ha hb => rI_in Iq (p := 80) rfl (by omega)
            refine ⟨J, le, rfl, m, rI wq 79, fun i => nn (rI wq 80 i), ⟨hmx, hm⟩, PLq, bw0, ?_⟩
            rcases bE with ⟨q1, q2⟩ | ⟨g, g1, g2, g3, g4, g5, g6⟩
            · have ne : (∃ a b, a ≤ m ∧ b ≤ m ∧ nn (rI wq 80 (6 * a + b)) = -6) ∨ ∀ g, ¬ pmV m g := by
                apply Classical.byContradiction
                intro z
                have zc : ∀ a b, a ≤ m → b ≤ m → nn (rI wq 80 (6 * a + b)) ≠ -6 := fun a b ha hb e => z (Or.inl ⟨a, b, ha, hb, e⟩)
                apply z
                refine Or.inr fun g pg => ?_
                have hq := q2 g pg (vl_lt pg.1)
                have b36 : ∀ i j, i ≤ m → j ≤ m → 0 ≤ rI wq 80 (6 * i + j) ∧ rI wq 80 (6 * i + j) ≤ 36 := fun i j hi hj => by
                  have u := (BM i j hi hj).b
                  have v9 := zc i j hi hj
                  by_cases e : rI wq 80 (6 * i + j) = 100000
                  · exact absurd (nn_y e) v9
                  · rw [nn_n e] at u v9; omega
                have sb := ss_b (m := m) (a := rI wq 80) (B := 36) pg.1 b36 (k := m) (Nat.le_refl _)
                have lb := b36 (pvo m g m) m (pvo_le pg.1 (Nat.le_refl _)) (Nat.le_refl _)
                unfold SS at hq
                omega
              first
                | exact Or.inl ⟨by clear ne; omega, ne⟩
                | (exfalso; clear ne; omega)
            · have con := leg_con (by omega) (fun a b ha hb => (bb a b ha hb).1) BM SAT hld g1 g3
              have eqv : ∀ i j, i ≤ m → j ≤ m → rI wq 80 (6 * i + j) = (fun i => nn (rI wq 80 i)) (6 * i + j) := fun i j hi hj => by
                show _ = nn (rI wq 80 (6 * i + j))
                by_cases e : rI wq 80 (6 * i + j) = 100000
                · exact absurd (nn_y e) (con i j hi hj)
                · rw [nn_n e]
              have op : opE m (fun i => nn (rI wq 80 i)) g := ⟨g1, fun h p => by
                have u := g6 h p (vl_lt p.1)
                rw [SS_eq (a := rI wq 80) (b := fun i => nn (rI wq 80 i)) g1.1 eqv, SS_eq (a := rI wq 80) (b := fun i => nn (rI wq 80 i)) p.1 eqv] at u
                exact u⟩
              have sg := SS_eq (a := rI wq 80) (b := fun i => nn (rI wq 80 i)) g1.1 eqv
              refine Or.inr ⟨con, g, op, ?_⟩
              first
                | (exfalso; omega)
                | exact Or.inl ⟨by omega, by rw [← sg]; omega⟩
                | exact Or.inr (Or.inr ⟨by omega, by omega, by omega⟩)
                | exact Or.inr (Or.inl ⟨by omega, ⟨by omega, by omega⟩, by
                    have e2 := g5 i.toInt.toNat (by omega)
                    rw [lev, x28v, r79, e2]
                    rfl⟩)
          · --
            refine s_i (pc1 := 243) (ls1 := [some (.ref 65), some (.int b), some (.long x), none, some (.int i), some (.int all), some (.int le), some (.int nu), o8, o9, o10, o11]) (st1 := []) rfl rfl fun x33 e34 => ?_
            have e34t : x33.toInt = -6 := by rw [e34]; rfl
            refine aw_step (f1 := (248, [some (.ref 65), some (.int b), some (.long x), none, some (.int i), some (.int all), some (.int le), some (.int nu), o8, o9, o10, o11], [(.int x33)])) (w1 := w) rfl rfl ?_
            refine aw_ret (v := some (.int x33)) rfl rfl ?_
            have bE := B
            rw [show nu.toInt.toNat = m ^ m by omega] at bE
            have bw0 : bwV V L m (rI wq 79) (fun i => nn (rI wq 80 i)) := BM
            have r79 : ∀ q, rI w 79 q = rI wq 79 q := fun q => O.rIe (by decide)
            have bb : ∀ a b, a ≤ m → b ≤ m → 0 ≤ rI wq 80 (6 * a + b) ∧ rI wq 80 (6 * a + b) ≤ 100000 := fun a b ha hb => rI_in Iq (p := 80) rfl (by omega)
            refine ⟨J, x33, rfl, m, rI wq 79, fun i => nn (rI wq 80 i), ⟨hmx, hm⟩, PLq, bw0, ?_⟩
            rcases bE with ⟨q1, q2⟩ | ⟨g, g1, g2, g3, g4, g5, g6⟩
            · have ne : (∃ a b, a ≤ m ∧ b ≤ m ∧ nn (rI wq 80 (6 * a + b)) = -6) ∨ ∀ g, ¬ pmV m g := by
                apply Classical.byContradiction
                intro z
                have zc : ∀ a b, a ≤ m → b ≤ m → nn (rI wq 80 (6 * a + b)) ≠ -6 := fun a b ha hb e => z (Or.inl ⟨a, b, ha, hb, e⟩)
                apply z
                refine Or.inr fun g pg => ?_
                have hq := q2 g pg (vl_lt pg.1)
                have b36 : ∀ i j, i ≤ m → j ≤ m → 0 ≤ rI wq 80 (6 * i + j) ∧ rI wq 80 (6 * i + j) ≤ 36 := fun i j hi hj => by
                  have u := (BM i j hi hj).b
                  have v9 := zc i j hi hj
                  by_cases e : rI wq 80 (6 * i + j) = 100000
                  · exact absurd (nn_y e) v9
                  · rw [nn_n e] at u v9; omega
                have sb := ss_b (m := m) (a := rI wq 80) (B := 36) pg.1 b36 (k := m) (Nat.le_refl _)
                have lb := b36 (pvo m g m) m (pvo_le pg.1 (Nat.le_refl _)) (Nat.le_refl _)
                unfold SS at hq
                omega
              first
                | exact Or.inl ⟨by clear ne; omega, ne⟩
                | (exfalso; clear ne; omega)
            · have con := leg_con (by omega) (fun a b ha hb => (bb a b ha hb).1) BM SAT hld g1 g3
              have eqv : ∀ i j, i ≤ m → j ≤ m → rI wq 80 (6 * i + j) = (fun i => nn (rI wq 80 i)) (6 * i + j) := fun i j hi hj => by
                show _ = nn (rI wq 80 (6 * i + j))
                by_cases e : rI wq 80 (6 * i + j) = 100000
                · exact absurd (nn_y e) (con i j hi hj)
                · rw [nn_n e]
              have op : opE m (fun i => nn (rI wq 80 i)) g := ⟨g1, fun h p => by
                have u := g6 h p (vl_lt p.1)
                rw [SS_eq (a := rI wq 80) (b := fun i => nn (rI wq 80 i)) g1.1 eqv, SS_eq (a := rI wq 80) (b := fun i => nn (rI wq 80 i)) p.1 eqv] at u
                exact u⟩
              have sg := SS_eq (a := rI wq 80) (b := fun i => nn (rI wq 80 i)) g1.1 eqv
              refine Or.inr ⟨con, g, op, ?_⟩
              first
                | (exfalso; omega)
                | exact Or.inl ⟨by omega, by rw [← sg]; omega⟩
                | exact Or.inr (Or.inr ⟨by omega, by omega, by omega⟩)
                | exact Or.inr (Or.inl ⟨by omega, ⟨by omega, by omega⟩, by
                    have e2 := g5 i.toInt.toNat (by omega)
                    rw [x33v, x28v, r79, e2]
                    rfl⟩)
    · --
      refine aw_step (f1 := (87, [some (.ref 65), some (.int b), some (.long x), none, some (.int i), some (.int all), some (.int le), some (.int nu), o8, o9, o10, o11], [(.int nu)])) (w1 := w) rfl rfl ?_
      refine aw_step (f1 := (89, [some (.ref 65), some (.int b), some (.long x), none, some (.int i), some (.int all), some (.int le), some (.int nu), some (.int nu), o9, o10, o11], [])) (w1 := w) rfl rfl ?_
      refine s_i (pc1 := 90) (ls1 := [some (.ref 65), some (.int b), some (.long x), none, some (.int i), some (.int all), some (.int le), some (.int nu), some (.int nu), o9, o10, o11]) (st1 := []) rfl rfl fun x35 e36 => ?_
      have e36t : x35.toInt = 0 := by rw [e36]; rfl
      refine aw_step (f1 := (92, [some (.ref 65), some (.int b), some (.long x), none, some (.int i), some (.int all), some (.int le), some (.int nu), some (.int nu), some (.int x35), o10, o11], [])) (w1 := w) rfl rfl ?_
      refine aw_step (f1 := (93, [some (.ref 65), some (.int b), some (.long x), none, some (.int i), some (.int all), some (.int le), some (.int nu), some (.int nu), some (.int x35), o10, o11], [(.ref 65)])) (w1 := w) rfl rfl ?_
      refine s_gi J 96 rfl rfl rfl rfl rfl rfl fun x37 x37a x37b x37f => ?_
      have x37v : x37.toInt = fI w 65 28 := by rw [← fI_of x37f]
      refine s_i (pc1 := 97) (ls1 := [some (.ref 65), some (.int b), some (.long x), none, some (.int i), some (.int all), some (.int le), some (.int nu), some (.int nu), some (.int x35), o10, o11]) (st1 := [(.int x37)]) rfl rfl fun x38 e39 => ?_
      have e39t : x38.toInt = 1 := by rw [e39]; rfl
      refine s_i (pc1 := 98) (ls1 := [some (.ref 65), some (.int b), some (.long x), none, some (.int i), some (.int all), some (.int le), some (.int nu), some (.int nu), some (.int x35), o10, o11]) (st1 := []) rfl rfl fun x40 e41 => ?_
      have e41 : x40 = x37 - x38 := e41
      have e41t : x40.toInt = x37.toInt - x38.toInt := by rw [e41]; exact n_sub (by omega) (by omega)
      refine aw_step (f1 := (100, [some (.ref 65), some (.int b), some (.long x), none, some (.int i), some (.int all), some (.int le), some (.int nu), some (.int nu), some (.int x35), some (.int x40), o11], [])) (w1 := w) rfl rfl ?_
      have hN : nu.toInt.toNat < m ^ m := by omega
      refine f_dg (m := m) (wq := w) b x i all le nu _ hm M2 (by omega) (fun w9 l9 h9 k9 J9 O9 hh9 H9 F9 => ?_) 7 w nu x35 x40 (by omega) (by omega) (by omega) J only.rf ?_ ?_ (by omega) (fun j j1 j2 => by omega)
      · have M9 : fI w9 65 28 = m := by rw [O9.fIe (by decide)]; exact M2
        have r80 : rI w9 80 = rI wq 80 := by funext j; rw [O9.rIe (by decide)]; exact O.rIe (by decide)
        have r82 : rI w9 82 = rI w 82 := by funext j; exact O9.rIe (by decide)
        have bm9 : ∀ i j, i ≤ m → j ≤ m → 0 ≤ rI w9 80 (6 * i + j) ∧ rI w9 80 (6 * i + j) ≤ 100000 := fun i j hi hj => rI_in J9.1 (p := 80) rfl (by omega)
        have B9 := B
        rw [← r80, ← r82] at B9
        rw [← r80] at nbs ih
        have nbs := nbs
        refine aw_step (f1 := (150, [some (.ref 65), some (.int b), some (.long x), none, some (.int i), some (.int all), some (.int le), some (.int nu), some (.int l9), some (.int h9), some (.int k9), o11], [(.int h9)])) (w1 := w9) rfl rfl ?_
        refine s_i (pc1 := 151) (ls1 := [some (.ref 65), some (.int b), some (.long x), none, some (.int i), some (.int all), some (.int le), some (.int nu), some (.int l9), some (.int h9), some (.int k9), o11]) (st1 := [(.int h9)]) rfl rfl fun zx1 ze2 => ?_
        have ze2t : zx1.toInt = 1 := by rw [ze2]; rfl
        --
        refine aw_step (f1 := (152, [some (.ref 65), some (.int b), some (.long x), none, some (.int i), some (.int all), some (.int le), some (.int nu), some (.int l9), some (.int h9), some (.int k9), o11], [(.ref 65), (.int zx1), (.int h9)])) (w1 := w9) rfl rfl ?_
        refine s_gi J9 155 rfl rfl rfl rfl rfl rfl fun zx3 zx3a zx3b zx3f => ?_
        have zx3v : zx3.toInt = fI w9 65 28 := by rw [← fI_of zx3f]
        --
        refine s_i (pc1 := 156) (ls1 := [some (.ref 65), some (.int b), some (.long x), none, some (.int i), some (.int all), some (.int le), some (.int nu), some (.int l9), some (.int h9), some (.int k9), o11]) (st1 := [(.int h9)]) rfl rfl fun zx4 ze5 => ?_
        have ze5 : zx4 = zx1 <<< (zx3 &&& 31) := ze5
        have shl : zx4.toInt = ((2 ^ m : Nat) : Int) := by
          have q := t_sh m (by omega)
          rw [← show zx3 = Int32.ofNat m from by rw [← show zx3.toInt.toNat = m by omega]; exact i32_nat (by omega)] at q
          rw [← q, ze5, show zx1 = 1 from n_1 (by omega)]
        have p2m : (2 : Nat) ^ m ≤ 2 ^ 5 := Nat.pow_le_pow_right (by decide) hm
        have p32 : (2 : Nat) ^ 5 = 32 := rfl
        have p1m : 1 ≤ (2 : Nat) ^ m := Nat.one_le_two_pow
        refine s_i (pc1 := 157) (ls1 := [some (.ref 65), some (.int b), some (.long x), none, some (.int i), some (.int all), some (.int le), some (.int nu), some (.int l9), some (.int h9), some (.int k9), o11]) (st1 := [(.int zx4), (.int h9)]) rfl rfl fun zx6 ze7 => ?_
        have ze7t : zx6.toInt = 1 := by rw [ze7]; rfl
        refine s_i (pc1 := 158) (ls1 := [some (.ref 65), some (.int b), some (.long x), none, some (.int i), some (.int all), some (.int le), some (.int nu), some (.int l9), some (.int h9), some (.int k9), o11]) (st1 := [(.int h9)]) rfl rfl fun zx8 ze9 => ?_
        have ze9 : zx8 = zx4 - zx6 := ze9
        have ze9t : zx8.toInt = zx4.toInt - zx6.toInt := by rw [ze9]; exact n_sub (by omega) (by omega)
        refine s_ic 168 161 rfl rfl rfl (fun (zh10 : ¬ h9.toInt = zx8.toInt) => ?_) (fun (zh10 : ¬ (¬ h9.toInt = zx8.toInt)) => ?_)
        · --
          have pmn : ¬ pmV m (dgN m nu.toInt.toNat) := fun z => by have := (H9.pm hm).mpr z; omega
          refine s_i (pc1 := 170) (ls1 := [some (.ref 65), some (.int b), some (.long x), none, some (.int i), some (.int all), some (.int le), some (.int nu), some (.int l9), some (.int h9), some (.int k9), o11]) (st1 := []) rfl rfl fun zx11 ze12 => ?_
          have ze12t : zx11.toInt = 100000 := by rw [ze12]; rfl
          refine aw_step (f1 := (172, [some (.ref 65), some (.int b), some (.long x), none, some (.int i), some (.int all), some (.int le), some (.int nu), some (.int l9), some (.int h9), some (.int zx11), o11], [])) (w1 := w9) rfl rfl ?_
          refine aw_step (f1 := (174, [some (.ref 65), some (.int b), some (.long x), none, some (.int i), some (.int all), some (.int le), some (.int nu), some (.int l9), some (.int h9), some (.int zx11), o11], [(.int zx11)])) (w1 := w9) rfl rfl ?_
          refine aw_step (f1 := (176, [some (.ref 65), some (.int b), some (.long x), none, some (.int i), some (.int all), some (.int le), some (.int nu), some (.int l9), some (.int h9), some (.int zx11), o11], [(.int le), (.int zx11)])) (w1 := w9) rfl rfl ?_
          refine s_ic 215 179 rfl rfl rfl (fun (zh13 : le.toInt ≤ zx11.toInt) => ?_) (fun (zh13 : ¬ (le.toInt ≤ zx11.toInt)) => ?_)
          · --
            refine aw_step (f1 := (218, [some (.ref 65), some (.int b), some (.long x), none, some (.int i), some (.int all), some (.int le), some (.int (nu + Int32.ofInt 1)), some (.int l9), some (.int h9), some (.int zx11), o11], [])) (w1 := w9) rfl rfl ?_
            obtain ⟨zx14, zx14e⟩ : ∃ z, z = (nu + Int32.ofInt 1) := ⟨_, rfl⟩
            have zx14t : zx14.toInt = nu.toInt + (1) := by rw [zx14e]; exact n_add (y := Int32.ofInt (1)) (by show _ ≤ _ + (1 : Int); omega) (by show _ + (1 : Int) ≤ _; omega)
            rw [← zx14e]
            refine aw_step (f1 := (78, [some (.ref 65), some (.int b), some (.long x), none, some (.int i), some (.int all), some (.int le), some (.int zx14), some (.int l9), some (.int h9), some (.int zx11), o11], [])) (w1 := w9) rfl rfl ?_
            refine ih w9 le zx14 _ _ _ _ (by omega) (by omega) (by omega) ⟨by omega, by omega⟩ J9 (O.trans (oc O9 (by decide))) ?_
            rw [show zx14.toInt.toNat = nu.toInt.toNat + 1 by omega]
            rw [show le.toInt = le.toInt by omega]
            exact B9.pa hN pmn
          · --
            exfalso; omega
        · --
          have pmy : pmV m (dgN m nu.toInt.toNat) := (H9.pm hm).mp (by omega)
          refine aw_step (f1 := (162, [some (.ref 65), some (.int b), some (.long x), none, some (.int i), some (.int all), some (.int le), some (.int nu), some (.int l9), some (.int h9), some (.int k9), o11], [(.ref 65)])) (w1 := w9) rfl rfl ?_
          refine s_cv (z := 154) (p := 65) (as := []) (st1 := []) J9 165 rfl rfl rfl rfl rfl rfl rfl rfl (Nat.le_of_ble_eq_true rfl) (Nat.le_of_ble_eq_true rfl) (f_sor (m := m) (g := dgN m nu.toInt.toNat) hm M9 (fun i hi => dgN_lt (by omega)) F9 bm9 J9.1) ?_
          rintro _ _ ⟨rfl, zx15, rfl, zx15t⟩
          refine ⟨rfl, ?_⟩
          show aw none _ 155 _ (165, [some (.ref 65), some (.int b), some (.long x), none, some (.int i), some (.int all), some (.int le), some (.int nu), some (.int l9), some (.int h9), some (.int k9), o11], [(.int zx15)]) w9
          refine aw_step (f1 := (170, [some (.ref 65), some (.int b), some (.long x), none, some (.int i), some (.int all), some (.int le), some (.int nu), some (.int l9), some (.int h9), some (.int k9), o11], [(.int zx15)])) (w1 := w9) rfl rfl ?_
          refine aw_step (f1 := (172, [some (.ref 65), some (.int b), some (.long x), none, some (.int i), some (.int all), some (.int le), some (.int nu), some (.int l9), some (.int h9), some (.int zx15), o11], [])) (w1 := w9) rfl rfl ?_
          refine aw_step (f1 := (174, [some (.ref 65), some (.int b), some (.long x), none, some (.int i), some (.int all), some (.int le), some (.int nu), some (.int l9), some (.int h9), some (.int zx15), o11], [(.int zx15)])) (w1 := w9) rfl rfl ?_
          refine aw_step (f1 := (176, [some (.ref 65), some (.int b), some (.long x), none, some (.int i), some (.int all), some (.int le), some (.int nu), some (.int l9), some (.int h9), some (.int zx15), o11], [(.int le), (.int zx15)])) (w1 := w9) rfl rfl ?_
          refine s_ic 215 179 rfl rfl rfl (fun (zh16 : le.toInt ≤ zx15.toInt) => ?_) (fun (zh16 : ¬ (le.toInt ≤ zx15.toInt)) => ?_)
          · --
            refine aw_step (f1 := (218, [some (.ref 65), some (.int b), some (.long x), none, some (.int i), some (.int all), some (.int le), some (.int (nu + Int32.ofInt 1)), some (.int l9), some (.int h9), some (.int zx15), o11], [])) (w1 := w9) rfl rfl ?_
            obtain ⟨zx17, zx17e⟩ : ∃ z, z = (nu + Int32.ofInt 1) := ⟨_, rfl⟩
            have zx17t : zx17.toInt = nu.toInt + (1) := by rw [zx17e]; exact n_add (y := Int32.ofInt (1)) (by show _ ≤ _ + (1 : Int); omega) (by show _ + (1 : Int) ≤ _; omega)
            rw [← zx17e]
            refine aw_step (f1 := (78, [some (.ref 65), some (.int b), some (.long x), none, some (.int i), some (.int all), some (.int le), some (.int zx17), some (.int l9), some (.int h9), some (.int zx15), o11], [])) (w1 := w9) rfl rfl ?_
            refine ih w9 le zx17 _ _ _ _ (by omega) (by omega) (by omega) ⟨by omega, by omega⟩ J9 (O.trans (oc O9 (by decide))) ?_
            rw [show zx17.toInt.toNat = nu.toInt.toNat + 1 by omega]
            exact B9.ye nbs pmy (dgN_v hN) (Or.inr ⟨by omega, by omega, fun j hj => rfl⟩)
          · --
            refine aw_step (f1 := (181, [some (.ref 65), some (.int b), some (.long x), none, some (.int i), some (.int all), some (.int le), some (.int nu), some (.int l9), some (.int h9), some (.int zx15), o11], [(.int zx15)])) (w1 := w9) rfl rfl ?_
            refine aw_step (f1 := (183, [some (.ref 65), some (.int b), some (.long x), none, some (.int i), some (.int all), some (.int zx15), some (.int nu), some (.int l9), some (.int h9), some (.int zx15), o11], [])) (w1 := w9) rfl rfl ?_
            refine s_i (pc1 := 184) (ls1 := [some (.ref 65), some (.int b), some (.long x), none, some (.int i), some (.int all), some (.int zx15), some (.int nu), some (.int l9), some (.int h9), some (.int zx15), o11]) (st1 := []) rfl rfl fun zx18 ze19 => ?_
            have ze19t : zx18.toInt = 0 := by rw [ze19]; rfl
            refine aw_step (f1 := (186, [some (.ref 65), some (.int b), some (.long x), none, some (.int i), some (.int all), some (.int zx15), some (.int nu), some (.int l9), some (.int h9), some (.int zx15), some (.int zx18)], [])) (w1 := w9) rfl rfl ?_
            have pm9 := pmy
            have sb9 := ss_b (m := m) (a := rI w9 80) (B := 100000) pmy.1 bm9 (k := m) (Nat.le_refl _)
            have lb9 := bm9 (pvo m (dgN m nu.toInt.toNat) m) m (pvo_le pmy.1 (Nat.le_refl _)) (Nat.le_refl _)
            have ss9 : 0 ≤ SS m (rI w9 80) (dgN m nu.toInt.toNat) := by unfold SS; omega
            refine f_ecp (m := m) (wb := w9) b x i all zx15 nu l9 h9 zx15 hm M9 (fun w7 q7 J7 O7 F7 => ?_) 6 w9 zx18 (by omega) (by omega) (by omega) J9 only.rf (fun j hj => by omega)
            refine aw_step (f1 := (218, [some (.ref 65), some (.int b), some (.long x), none, some (.int i), some (.int all), some (.int zx15), some (.int (nu + Int32.ofInt 1)), some (.int l9), some (.int h9), some (.int zx15), some (.int q7)], [])) (w1 := w7) rfl rfl ?_
            obtain ⟨yx1, yx1e⟩ : ∃ z, z = (nu + Int32.ofInt 1) := ⟨_, rfl⟩
            have yx1t : yx1.toInt = nu.toInt + (1) := by rw [yx1e]; exact n_add (y := Int32.ofInt (1)) (by show _ ≤ _ + (1 : Int); omega) (by show _ + (1 : Int) ≤ _; omega)
            rw [← yx1e]
            refine aw_step (f1 := (78, [some (.ref 65), some (.int b), some (.long x), none, some (.int i), some (.int all), some (.int zx15), some (.int yx1), some (.int l9), some (.int h9), some (.int zx15), some (.int q7)], [])) (w1 := w7) rfl rfl ?_
            refine ih w7 zx15 yx1 _ _ _ _ (by omega) (by omega) (by omega) ⟨by omega, by omega⟩ J7 (((O.trans (oc O9 (by decide)))).trans (oc O7 (by decide))) ?_
            rw [show yx1.toInt.toNat = nu.toInt.toNat + 1 by omega]
            exact (B9.ye nbs pm9 (dgN_v hN) (Or.inl ⟨by omega, by omega, by omega, fun j hj => by rw [F7 j hj, F9 j hj]⟩))
      · rw [show x40.toInt = (m : Int) - 1 by omega, show ((m : Int) - 1 - ((m : Int) - 1)).toNat = 0 by omega, Nat.pow_zero, Nat.div_one]; omega
      · intro q
        rw [show x35.toInt.toNat = 0 by omega, bt_z]
        exact ⟨fun u => by omega, fun ⟨j, j1, j2, j3⟩ => by omega⟩
theorem f_eal {d m : Nat} {w00 w : am_W} {V : Nat → Int} {L : Int} (hz : szV V ≤ 36) (b : Int32) (x : Int64) (i : Int32) (hm : m ≤ 5) (hmx : m = cnt (n64 x) 64) (M2 : fI w 65 28 = m) (J : ab_J ab_TT ab_sets ab_WR w00 w) (PLq : plE V (n64 x) m (rI w 79)) (BM : bmV V L m (rI w 79) (rI w 80)) (SAT : ∀ a, a ≤ m → satV V L (rI w 79 a).toNat) (hld : ∀ q, q ≤ m → (((rI w 79 q).toNat : Nat) : Int) < szV V ∧ V (40 + (rI w 79 q).toNat) ≠ 126) : ∀ (n : Nat) (all k : Int32), ((m : Int) - k.toInt).toNat < n → 0 ≤ k.toInt → k.toInt ≤ m → all.toInt = ((m ^ k.toInt.toNat : Nat) : Int) → aw none (d + 3) 155 (fun r w1 => ab_J ab_TT ab_sets ab_WR w00 w1 ∧ ∃ z : Int32, r = some (.int z) ∧ erW V L (n64 x) i.toInt z.toInt) (47, [some (.ref 65), some (.int b), some (.long x), none, some (.int i), some (.int all), some (.int k), none, none, none, none, none], []) w := by
  intro n
  induction n with
  | zero => intro all k p; omega
  | succ n ih =>
    intro all k p1 p2 p3 hal
    have pk0 := pw_5 (m := m) (k := k.toInt.toNat) hm (by omega)
    refine aw_step (f1 := (49, [some (.ref 65), some (.int b), some (.long x), none, some (.int i), some (.int all), some (.int k), none, none, none, none, none], [(.int k)])) (w1 := w) rfl rfl ?_
    refine aw_step (f1 := (50, [some (.ref 65), some (.int b), some (.long x), none, some (.int i), some (.int all), some (.int k), none, none, none, none, none], [(.ref 65), (.int k)])) (w1 := w) rfl rfl ?_
    refine s_gi J 53 rfl rfl rfl rfl rfl rfl fun x1 x1a x1b x1f => ?_
    have x1v : x1.toInt = fI w 65 28 := by rw [← fI_of x1f]
    refine s_ic 71 56 rfl rfl rfl (fun (h2 : x1.toInt ≤ k.toInt) => ?_) (fun (h2 : ¬ (x1.toInt ≤ k.toInt)) => ?_)
    · --
      refine s_i (pc1 := 73) (ls1 := [some (.ref 65), some (.int b), some (.long x), none, some (.int i), some (.int all), some (.int k), none, none, none, none, none]) (st1 := []) rfl rfl fun x3 e4 => ?_
      have e4t : x3.toInt = 100000 := by rw [e4]; rfl
      refine aw_step (f1 := (75, [some (.ref 65), some (.int b), some (.long x), none, some (.int i), some (.int all), some (.int x3), none, none, none, none, none], [])) (w1 := w) rfl rfl ?_
      refine s_i (pc1 := 76) (ls1 := [some (.ref 65), some (.int b), some (.long x), none, some (.int i), some (.int all), some (.int x3), none, none, none, none, none]) (st1 := []) rfl rfl fun x5 e6 => ?_
      have e6t : x5.toInt = 0 := by rw [e6]; rfl
      refine aw_step (f1 := (78, [some (.ref 65), some (.int b), some (.long x), none, some (.int i), some (.int all), some (.int x3), some (.int x5), none, none, none, none], [])) (w1 := w) rfl rfl ?_
      rw [show k.toInt.toNat = m by omega] at hal
      exact f_enu hz b x i all hm hmx hal M2 J.1 PLq BM SAT hld (all.toInt.toNat + 1) w x3 x5 _ _ _ _ (by omega) (by omega) (by omega) ⟨by omega, by omega⟩ J only.rf (by rw [show x5.toInt.toNat = 0 by omega]; exact Or.inl ⟨by omega, fun g _ l => by omega⟩)
    · --
      refine aw_step (f1 := (58, [some (.ref 65), some (.int b), some (.long x), none, some (.int i), some (.int all), some (.int k), none, none, none, none, none], [(.int all)])) (w1 := w) rfl rfl ?_
      refine aw_step (f1 := (59, [some (.ref 65), some (.int b), some (.long x), none, some (.int i), some (.int all), some (.int k), none, none, none, none, none], [(.ref 65), (.int all)])) (w1 := w) rfl rfl ?_
      refine s_gi J 62 rfl rfl rfl rfl rfl rfl fun x7 x7a x7b x7f => ?_
      have x7v : x7.toInt = fI w 65 28 := by rw [← fI_of x7f]
      --
      refine s_i (pc1 := 63) (ls1 := [some (.ref 65), some (.int b), some (.long x), none, some (.int i), some (.int all), some (.int k), none, none, none, none, none]) (st1 := []) rfl rfl fun x8 e9 => ?_
      have e9 : x8 = all * x7 := e9
      have pk := pw_5 (m := m) (k := k.toInt.toNat + 1) hm (by omega)
      have hpr : all.toInt * x7.toInt = ((m ^ (k.toInt.toNat + 1) : Nat) : Int) := by
        rw [hal, show x7.toInt = ((m : Nat) : Int) by omega, Nat.pow_succ]
        rfl
      have hx : x8.toInt = ((m ^ (k.toInt.toNat + 1) : Nat) : Int) := by
        rw [e9, n_mul (by rw [hpr]; omega) (by rw [hpr]; omega), hpr]
      refine aw_step (f1 := (65, [some (.ref 65), some (.int b), some (.long x), none, some (.int i), some (.int x8), some (.int k), none, none, none, none, none], [])) (w1 := w) rfl rfl ?_
      refine aw_step (f1 := (68, [some (.ref 65), some (.int b), some (.long x), none, some (.int i), some (.int x8), some (.int (k + Int32.ofInt 1)), none, none, none, none, none], [])) (w1 := w) rfl rfl ?_
      obtain ⟨x10, x10e⟩ : ∃ z, z = (k + Int32.ofInt 1) := ⟨_, rfl⟩
      have x10t : x10.toInt = k.toInt + (1) := by rw [x10e]; exact n_add (y := Int32.ofInt (1)) (by show _ ≤ _ + (1 : Int); omega) (by show _ + (1 : Int) ≤ _; omega)
      rw [← x10e]
      refine aw_step (f1 := (47, [some (.ref 65), some (.int b), some (.long x), none, some (.int i), some (.int x8), some (.int x10), none, none, none, none, none], [])) (w1 := w) rfl rfl ?_
      exact ih x8 x10 (by omega) (by omega) (by omega) (by rw [show x10.toInt.toNat = k.toInt.toNat + 1 by omega]; exact hx)
theorem f_errands {d : Nat} {w : am_W} {V : Nat → Int} (R : RMs w V) (hh : 0 ≤ V 2 ∧ V 2 < szV V) (hhl : V (40 + (V 2).toNat) ≠ 126) (b : Int32) (x : Int64) (i : Int32) (I : ab_inv ab_TT ab_sets w) : aw none (d + 6) 155 (fun r w1 => ab_J ab_TT ab_sets ab_WR w w1 ∧ ∃ z : Int32, r = some (.int z) ∧ errP V b.toInt (n64 x) i.toInt z.toInt) (0, am_entry 155 [.ref 65, .int b, .long x, .int i], []) w := by
  have J : ab_J ab_TT ab_sets ab_WR w w := ⟨I, ab_fr.rf⟩
  have szm := szM_in I
  have hsz := R.sz
  show aw none (d + 6) 155 _ (0, [some (.ref 65), some (.int b), some (.long x), none, some (.int i), none, none, none, none, none, none, none], []) w
  refine aw_step (f1 := (1, [some (.ref 65), some (.int b), some (.long x), none, some (.int i), none, none, none, none, none, none, none], [(.int b)])) (w1 := w) rfl rfl ?_
  refine s_cs (z := 116) (as := [(.int b)]) (st1 := []) 4 rfl rfl rfl rfl rfl rfl (Nat.le_of_ble_eq_true rfl) (Nat.le_of_ble_eq_true rfl) (Nat.le_of_ble_eq_true rfl) (q_areBoots b) ?_
  rintro _ _ ⟨rfl, x1, rfl, x1t⟩
  refine ⟨rfl, ?_⟩
  show aw none _ 155 _ (4, [some (.ref 65), some (.int b), some (.long x), none, some (.int i), none, none, none, none, none, none, none], [(.int x1)]) w
  refine s_if 9 7 rfl rfl rfl (fun (h2 : ¬ x1.toInt = 0) => ?_) (fun (h2 : ¬ (¬ x1.toInt = 0)) => ?_)
  · --
    refine aw_step (f1 := (10, [some (.ref 65), some (.int b), some (.long x), none, some (.int i), none, none, none, none, none, none, none], [(.ref 65)])) (w1 := w) rfl rfl ?_
    refine aw_step (f1 := (11, [some (.ref 65), some (.int b), some (.long x), none, some (.int i), none, none, none, none, none, none, none], [(.long x), (.ref 65)])) (w1 := w) rfl rfl ?_
    refine s_cv (z := 152) (p := 65) (as := [(.long x)]) (st1 := []) J 14 rfl rfl rfl rfl rfl rfl rfl rfl (Nat.le_of_ble_eq_true rfl) (Nat.le_of_ble_eq_true rfl) (f_isSet R x J.1) ?_
    rintro _ _ ⟨rfl, x3, rfl, x3t⟩
    refine ⟨rfl, ?_⟩
    show aw none _ 155 _ (14, [some (.ref 65), some (.int b), some (.long x), none, some (.int i), none, none, none, none, none, none, none], [(.int x3)]) w
    have x3b : x3.toInt = 1 ∨ x3.toInt = 0 := by rcases x3t with q | q <;> (have := q.1; omega)
    refine s_if 20 17 rfl rfl rfl (fun (h4 : ¬ x3.toInt = 0) => ?_) (fun (h4 : ¬ (¬ x3.toInt = 0)) => ?_)
    · --
      refine aw_step (f1 := (21, [some (.ref 65), some (.int b), some (.long x), none, some (.int i), none, none, none, none, none, none, none], [(.long x)])) (w1 := w) rfl rfl ?_
      refine s_cs (z := 109) (as := [(.long x)]) (st1 := []) 24 rfl rfl rfl rfl rfl rfl (Nat.le_of_ble_eq_true rfl) (Nat.le_of_ble_eq_true rfl) (Nat.le_of_ble_eq_true rfl) (q_ones x) ?_
      rintro _ _ ⟨rfl, x5, rfl, x5t⟩
      refine ⟨rfl, ?_⟩
      show aw none _ 155 _ (24, [some (.ref 65), some (.int b), some (.long x), none, some (.int i), none, none, none, none, none, none, none], [(.int x5)]) w
      have x5c := cnt_le (n64 x) 64
      refine s_i (pc1 := 25) (ls1 := [some (.ref 65), some (.int b), some (.long x), none, some (.int i), none, none, none, none, none, none, none]) (st1 := [(.int x5)]) rfl rfl fun x6 e7 => ?_
      have e7t : x6.toInt = 5 := by rw [e7]; rfl
      refine s_ic 31 28 rfl rfl rfl (fun (h8 : x5.toInt ≤ x6.toInt) => ?_) (fun (h8 : ¬ (x5.toInt ≤ x6.toInt)) => ?_)
      · --
        refine aw_step (f1 := (32, [some (.ref 65), some (.int b), some (.long x), none, some (.int i), none, none, none, none, none, none, none], [(.ref 65)])) (w1 := w) rfl rfl ?_
        refine aw_step (f1 := (33, [some (.ref 65), some (.int b), some (.long x), none, some (.int i), none, none, none, none, none, none, none], [(.int b), (.ref 65)])) (w1 := w) rfl rfl ?_
        refine s_cv (z := 133) (p := 65) (as := [(.int b)]) (st1 := []) J 36 rfl rfl rfl rfl rfl rfl rfl rfl (Nat.le_of_ble_eq_true rfl) (Nat.le_of_ble_eq_true rfl) (q_putOn b ⟨by omega, by omega⟩ J.1) ?_
        rintro _ w9 ⟨rfl, J10c, w9o, w9p⟩
        have J10 := J.trans J10c
        refine ⟨am_len2 J J10c, ?_⟩
        show aw none _ 155 _ (36, [some (.ref 65), some (.int b), some (.long x), none, some (.int i), none, none, none, none, none, none, none], []) w9
        have l67 : rI w 67 b.toInt.toNat = V (8 + 4 * b.toInt.toNat + 0) := R.ra (i := b.toInt.toNat) (c := 0) (by omega) (by decide)
        have lr := rowM_V R (by omega) w9p
        rw [l67] at lr
        have sx := (x3t.resolve_right (fun q => by have := q.1; omega)).2
        refine aw_step (f1 := (37, [some (.ref 65), some (.int b), some (.long x), none, some (.int i), none, none, none, none, none, none, none], [(.ref 65)])) (w1 := w9) rfl rfl ?_
        refine aw_step (f1 := (38, [some (.ref 65), some (.int b), some (.long x), none, some (.int i), none, none, none, none, none, none, none], [(.long x), (.ref 65)])) (w1 := w9) rfl rfl ?_
        refine s_cv (z := 153) (p := 65) (as := [(.long x)]) (st1 := []) J10 41 rfl rfl rfl rfl rfl rfl rfl rfl (Nat.le_of_ble_eq_true rfl) (Nat.le_of_ble_eq_true rfl) (f_layErrands (R.wr I J10) hh hhl lr x sx (by omega) J10.1) ?_
        rintro _ w11 ⟨rfl, J12c, w11M, w11P, w11B, w11S⟩
        have J12 := J10.trans J12c
        refine ⟨am_len2 J10 J12c, ?_⟩
        show aw none _ 155 _ (41, [some (.ref 65), some (.int b), some (.long x), none, some (.int i), none, none, none, none, none, none, none], []) w11
        refine s_i (pc1 := 42) (ls1 := [some (.ref 65), some (.int b), some (.long x), none, some (.int i), none, none, none, none, none, none, none]) (st1 := []) rfl rfl fun x13 e14 => ?_
        have e14t : x13.toInt = 1 := by rw [e14]; rfl
        refine aw_step (f1 := (44, [some (.ref 65), some (.int b), some (.long x), none, some (.int i), some (.int x13), none, none, none, none, none, none], [])) (w1 := w11) rfl rfl ?_
        refine s_i (pc1 := 45) (ls1 := [some (.ref 65), some (.int b), some (.long x), none, some (.int i), some (.int x13), none, none, none, none, none, none]) (st1 := []) rfl rfl fun x15 e16 => ?_
        have e16t : x15.toInt = 0 := by rw [e16]; rfl
        refine aw_step (f1 := (47, [some (.ref 65), some (.int b), some (.long x), none, some (.int i), some (.int x13), some (.int x15), none, none, none, none, none], [])) (w1 := w11) rfl rfl ?_
        refine (f_eal (m := cnt (n64 x) 64) (V := V) (L := V (8 + 4 * b.toInt.toNat + 0)) (by omega) b x i (by omega) rfl w11M J12 w11P w11B w11S (fun q hq => ?_) 6 x13 x15 (by omega) (by omega) (by omega) (by rw [show x15.toInt.toNat = 0 by omega, Nat.pow_zero]; omega)).mono ?_
        · by_cases e : q = cnt (n64 x) 64
          · rw [e, w11P.2]; exact ⟨by omega, hhl⟩
          · obtain ⟨a1, a2, a3⟩ := w11P.1 q (by omega)
            exact sx _ a2
        · rintro r w1 ⟨J9, z, rfl, hz⟩
          exact ⟨J9, z, rfl, Or.inr (Or.inr (Or.inr ⟨by omega, sx, by omega, hz⟩))⟩
      · --
        refine s_i (pc1 := 30) (ls1 := [some (.ref 65), some (.int b), some (.long x), none, some (.int i), none, none, none, none, none, none, none]) (st1 := []) rfl rfl fun x17 e18 => ?_
        have e18t : x17.toInt = -4 := by rw [e18]; rfl
        refine aw_ret (v := some (.int x17)) rfl rfl ?_
        first
          | exact ⟨J, x17, rfl, Or.inl ⟨by omega, by omega⟩⟩
          | exact ⟨J, x17, rfl, Or.inr (Or.inl ⟨by omega, by omega, (x3t.resolve_left (fun q => by have := q.1; omega)).2⟩)⟩
          | exact ⟨J, x17, rfl, Or.inr (Or.inr (Or.inl ⟨by omega, by omega, (x3t.resolve_right (fun q => by have := q.1; omega)).2, by omega⟩))⟩
    · --
      refine s_i (pc1 := 19) (ls1 := [some (.ref 65), some (.int b), some (.long x), none, some (.int i), none, none, none, none, none, none, none]) (st1 := []) rfl rfl fun x19 e20 => ?_
      have e20t : x19.toInt = -2 := by rw [e20]; rfl
      refine aw_ret (v := some (.int x19)) rfl rfl ?_
      first
        | exact ⟨J, x19, rfl, Or.inl ⟨by omega, by omega⟩⟩
        | exact ⟨J, x19, rfl, Or.inr (Or.inl ⟨by omega, by omega, (x3t.resolve_left (fun q => by have := q.1; omega)).2⟩)⟩
        | exact ⟨J, x19, rfl, Or.inr (Or.inr (Or.inl ⟨by omega, by omega, (x3t.resolve_right (fun q => by have := q.1; omega)).2, by omega⟩))⟩
  · --
    refine s_i (pc1 := 8) (ls1 := [some (.ref 65), some (.int b), some (.long x), none, some (.int i), none, none, none, none, none, none, none]) (st1 := []) rfl rfl fun x21 e22 => ?_
    have e22t : x21.toInt = -1 := by rw [e22]; rfl
    refine aw_ret (v := some (.int x21)) rfl rfl ?_
    first
      | exact ⟨J, x21, rfl, Or.inl ⟨by omega, by omega⟩⟩
      | exact ⟨J, x21, rfl, Or.inr (Or.inl ⟨by omega, by omega, (x3t.resolve_left (fun q => by have := q.1; omega)).2⟩)⟩
      | exact ⟨J, x21, rfl, Or.inr (Or.inr (Or.inl ⟨by omega, by omega, (x3t.resolve_right (fun q => by have := q.1; omega)).2, by omega⟩))⟩
