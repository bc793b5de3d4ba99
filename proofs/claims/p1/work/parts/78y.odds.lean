/-! ===== the public three of the model, where all cells are land ===== -/
theorem f_cmL {d g : Nat} {w : am_W} (a b : Int64) : ∀ (m : Nat) (x y : Int64) (o8 o9 : Option Value), n64 y < m → 0 ≤ x.toInt → 0 ≤ y.toInt → Nat.gcd (n64 x) (n64 y) = g → aw none d 169 (fun r w1 => w = w1 ∧ ∃ z : Int64, r = some (.long z) ∧ 0 ≤ z.toInt ∧ n64 z = g) (6, [some (.long a), none, some (.long b), none, some (.long x), none, some (.long y), none, o8, o9], []) w := by
  intro m
  induction m with
  | zero => intro x y o8 o9 p; omega
  | succ m ih =>
    intro x y o8 o9 p1 p4 p5 hg
    refine aw_step (f1 := (8, [some (.long a), none, some (.long b), none, some (.long x), none, some (.long y), none, o8, o9], [(.long y)])) (w1 := w) rfl rfl ?_
    refine s_l (pc1 := 9) (ls1 := [some (.long a), none, some (.long b), none, some (.long x), none, some (.long y), none, o8, o9]) (st1 := [(.long y)]) rfl rfl fun y1 e2 => ?_
    have e2t : y1.toInt = 0 := by rw [e2]; rfl
    refine s_lc 31 13 10 rfl rfl rfl rfl rfl (fun (h3 : y.toInt = y1.toInt) => ?_) (fun (h3 : ¬ (y.toInt = y1.toInt)) => ?_)
    · --
      refine aw_step (f1 := (33, [some (.long a), none, some (.long b), none, some (.long x), none, some (.long y), none, o8, o9], [(.long x)])) (w1 := w) rfl rfl ?_
      refine aw_ret (v := some (.long x)) rfl rfl ?_
      refine ⟨rfl, x, rfl, by omega, ?_⟩
      rw [← hg, n64_z.mp (show y.toInt = 0 by omega), Nat.gcd_zero_right]
    · --
      refine aw_step (f1 := (15, [some (.long a), none, some (.long b), none, some (.long x), none, some (.long y), none, o8, o9], [(.long x)])) (w1 := w) rfl rfl ?_
      refine aw_step (f1 := (17, [some (.long a), none, some (.long b), none, some (.long x), none, some (.long y), none, o8, o9], [(.long y), (.long x)])) (w1 := w) rfl rfl ?_
      refine s_dvl (f := fun x y => x - x / y * y) 18 rfl rfl (by omega) fun y4 e5 => ?_
      have e5 : y4 = x - x / y * y := e5
      refine aw_step (f1 := (20, [some (.long a), none, some (.long b), none, some (.long x), none, some (.long y), none, some (.long y4), none], [])) (w1 := w) rfl rfl ?_
      refine aw_step (f1 := (22, [some (.long a), none, some (.long b), none, some (.long x), none, some (.long y), none, some (.long y4), none], [(.long y)])) (w1 := w) rfl rfl ?_
      refine aw_step (f1 := (24, [some (.long a), none, some (.long b), none, some (.long y), none, some (.long y), none, some (.long y4), none], [])) (w1 := w) rfl rfl ?_
      refine aw_step (f1 := (26, [some (.long a), none, some (.long b), none, some (.long y), none, some (.long y), none, some (.long y4), none], [(.long y4)])) (w1 := w) rfl rfl ?_
      refine aw_step (f1 := (28, [some (.long a), none, some (.long b), none, some (.long y), none, some (.long y4), none, some (.long y4), none], [])) (w1 := w) rfl rfl ?_
      refine aw_step (f1 := (6, [some (.long a), none, some (.long b), none, some (.long y), none, some (.long y4), none, some (.long y4), none], [])) (w1 := w) rfl rfl ?_
      have yp : 0 < y.toInt := by omega
      obtain ⟨rm1, rm2⟩ := n64_rem (x := x) (y := y) (by omega) yp
      rw [← e5] at rm1 rm2
      have yn := (n64_of (x := y) (by omega)).1
      have lt : n64 x % n64 y < n64 y := Nat.mod_lt _ (by omega)
      exact ih y y4 _ _ (by omega) (by omega) (by omega) (by rw [rm1, ← hg, Nat.gcd_comm (n64 x) (n64 y), Nat.gcd_rec (n64 y) (n64 x), Nat.gcd_comm])
theorem f_cm {d : Nat} {w : am_W} (a b : Int64) (ha : 0 ≤ a.toInt) (hb : 0 ≤ b.toInt) : aw none d 169 (fun r w1 => w = w1 ∧ ∃ z : Int64, r = some (.long z) ∧ 0 ≤ z.toInt ∧ n64 z = Nat.gcd (n64 a) (n64 b)) (0, am_entry 169 [.long a, .long b], []) w := by
  show aw none d 169 _ (0, [some (.long a), none, some (.long b), none, none, none, none, none, none, none], []) w
  refine aw_step (f1 := (1, [some (.long a), none, some (.long b), none, none, none, none, none, none, none], [(.long a)])) (w1 := w) rfl rfl ?_
  refine aw_step (f1 := (3, [some (.long a), none, some (.long b), none, some (.long a), none, none, none, none, none], [])) (w1 := w) rfl rfl ?_
  refine aw_step (f1 := (4, [some (.long a), none, some (.long b), none, some (.long a), none, none, none, none, none], [(.long b)])) (w1 := w) rfl rfl ?_
  refine aw_step (f1 := (6, [some (.long a), none, some (.long b), none, some (.long a), none, some (.long b), none, none, none], [])) (w1 := w) rfl rfl ?_
  exact f_cmL a b (n64 b + 1) a b none none (by omega) ha hb rfl
theorem f_ways {d : Nat} {w : am_W} {V : Nat → Int} (R : RMs w V) (al : alV V) (b f t n : Int32) (I : ab_inv ab_TT ab_sets w) : aw none (d + 6) 168 (fun r w1 => ab_J ab_TT ab_sets ab_WR w w1 ∧ ∃ z : Int64, r = some (.long z) ∧ wayP V b.toInt f.toInt t.toInt n.toInt z.toInt) (0, am_entry 168 [.ref 65, .int b, .int f, .int t, .int n], []) w := by
  have J : ab_J ab_TT ab_sets ab_WR w w := ⟨I, ab_fr.rf⟩
  have szm := szM_in I
  have hsz := R.sz
  have hl0 : ∀ c : Int32, 0 ≤ c.toInt → c.toInt < szV V → rI w 66 c.toInt.toNat ≠ 126 := fun c a b => by rw [R.rc (by omega)]; exact al _ (by omega)
  show aw none (d + 6) 168 _ (0, [some (.ref 65), some (.int b), some (.int f), some (.int t), some (.int n)], []) w
  refine aw_step (f1 := (1, [some (.ref 65), some (.int b), some (.int f), some (.int t), some (.int n)], [(.ref 65)])) (w1 := w) rfl rfl ?_
  refine aw_step (f1 := (2, [some (.ref 65), some (.int b), some (.int f), some (.int t), some (.int n)], [(.int b), (.ref 65)])) (w1 := w) rfl rfl ?_
  refine aw_step (f1 := (3, [some (.ref 65), some (.int b), some (.int f), some (.int t), some (.int n)], [(.int f), (.int b), (.ref 65)])) (w1 := w) rfl rfl ?_
  refine aw_step (f1 := (4, [some (.ref 65), some (.int b), some (.int f), some (.int t), some (.int n)], [(.int t), (.int f), (.int b), (.ref 65)])) (w1 := w) rfl rfl ?_
  refine s_cv (z := 143) (p := 65) (as := [(.int b), (.int f), (.int t)]) (st1 := []) J 7 rfl rfl rfl rfl rfl rfl rfl rfl (Nat.le_of_ble_eq_true rfl) (Nat.le_of_ble_eq_true rfl) (q_isAsked b f t J.1) ?_
  rintro _ _ ⟨rfl, x1, rfl, x1t⟩
  refine ⟨rfl, ?_⟩
  show aw none _ 168 _ (7, [some (.ref 65), some (.int b), some (.int f), some (.int t), some (.int n)], [(.int x1)]) w
  have x1s := szM_in J.1
  refine s_if 14 10 rfl rfl rfl (fun (h2 : ¬ x1.toInt = 0) => ?_) (fun (h2 : ¬ (¬ x1.toInt = 0)) => ?_)
  · --
    refine aw_step (f1 := (16, [some (.ref 65), some (.int b), some (.int f), some (.int t), some (.int n)], [(.int n)])) (w1 := w) rfl rfl ?_
    refine s_l (pc1 := 17) (ls1 := [some (.ref 65), some (.int b), some (.int f), some (.int t), some (.int n)]) (st1 := []) rfl rfl fun y3 e4 => ?_
    have e4t : y3.toInt = n.toInt := by rw [e4]; exact Int32.toInt_toInt64 n
    refine s_l (pc1 := 18) (ls1 := [some (.ref 65), some (.int b), some (.int f), some (.int t), some (.int n)]) (st1 := [(.long y3)]) rfl rfl fun y5 e6 => ?_
    have e6t : y5.toInt = 0 := by rw [e6]; rfl
    refine s_l (pc1 := 21) (ls1 := [some (.ref 65), some (.int b), some (.int f), some (.int t), some (.int n)]) (st1 := [(.long y5), (.long y3)]) rfl rfl fun y7 e8 => ?_
    have e8t : y7.toInt = 12 := by rw [e8]; rfl
    refine s_cs (z := 108) (as := [(.long y3), (.long y5), (.long y7)]) (st1 := []) 24 rfl rfl rfl rfl rfl rfl (Nat.le_of_ble_eq_true rfl) (Nat.le_of_ble_eq_true rfl) (Nat.le_of_ble_eq_true rfl) (q_in2 y3 y5 y7) ?_
    rintro _ _ ⟨rfl, x9, rfl, x9t⟩
    refine ⟨rfl, ?_⟩
    show aw none _ 168 _ (24, [some (.ref 65), some (.int b), some (.int f), some (.int t), some (.int n)], [(.int x9)]) w
    refine s_if 31 27 rfl rfl rfl (fun (h10 : ¬ x9.toInt = 0) => ?_) (fun (h10 : ¬ (¬ x9.toInt = 0)) => ?_)
    · --
      refine aw_step (f1 := (32, [some (.ref 65), some (.int b), some (.int f), some (.int t), some (.int n)], [(.ref 65)])) (w1 := w) rfl rfl ?_
      refine aw_step (f1 := (33, [some (.ref 65), some (.int b), some (.int f), some (.int t), some (.int n)], [(.int b), (.ref 65)])) (w1 := w) rfl rfl ?_
      refine s_cv (z := 133) (p := 65) (as := [(.int b)]) (st1 := []) J 36 rfl rfl rfl rfl rfl rfl rfl rfl (Nat.le_of_ble_eq_true rfl) (Nat.le_of_ble_eq_true rfl) (q_putOn b ⟨by omega, by omega⟩ J.1) ?_
      rintro _ w11 ⟨rfl, J12c, w11o, w11p⟩
      have J12 := J.trans J12c
      refine ⟨am_len2 J J12c, ?_⟩
      show aw none _ 168 _ (36, [some (.ref 65), some (.int b), some (.int f), some (.int t), some (.int n)], []) w11
      have z1 : szM w11 = szV V := by rw [← hsz]; exact w11o.sz (by decide)
      refine aw_step (f1 := (37, [some (.ref 65), some (.int b), some (.int f), some (.int t), some (.int n)], [(.ref 65)])) (w1 := w11) rfl rfl ?_
      refine aw_step (f1 := (38, [some (.ref 65), some (.int b), some (.int f), some (.int t), some (.int n)], [(.int f), (.ref 65)])) (w1 := w11) rfl rfl ?_
      refine aw_step (f1 := (40, [some (.ref 65), some (.int b), some (.int f), some (.int t), some (.int n)], [(.int n), (.int f), (.ref 65)])) (w1 := w11) rfl rfl ?_
      refine s_cv (z := 166) (p := 65) (as := [(.int f), (.int n)]) (st1 := []) J12 43 rfl rfl rfl rfl rfl rfl rfl rfl (Nat.le_of_ble_eq_true rfl) (Nat.le_of_ble_eq_true rfl) (f_findWays f n ⟨by omega, by omega⟩ ⟨by omega, by omega⟩ J12.1) ?_
      rintro _ w13 ⟨rfl, J14c, w13o, w13p⟩
      have J14 := J12.trans J14c
      refine ⟨am_len2 J12 J14c, ?_⟩
      show aw none _ 168 _ (43, [some (.ref 65), some (.int b), some (.int f), some (.int t), some (.int n)], []) w13
      refine aw_step (f1 := (44, [some (.ref 65), some (.int b), some (.int f), some (.int t), some (.int n)], [(.ref 65)])) (w1 := w13) rfl rfl ?_
      refine s_gr 84 J14 47 rfl rfl rfl rfl rfl rfl ?_
      refine aw_step (f1 := (48, [some (.ref 65), some (.int b), some (.int f), some (.int t), some (.int n)], [(.int t), (.ref 84)])) (w1 := w13) rfl rfl ?_
      refine s_la J14 49 rfl rfl rfl (by omega) (by omega) fun y15 y15a y15b y15f => ?_
      refine aw_ret (v := some (.long y15)) rfl rfl ?_
      have l67 : rI w 67 b.toInt.toNat = V (8 + 4 * b.toInt.toNat + 0) := R.ra (i := b.toInt.toNat) (c := 0) (by omega) (by decide)
      have lr := rowM_V R (by omega) w11p
      rw [l67] at lr
      have lv : lV V (V (8 + 4 * b.toInt.toNat + 0)) (rL w11 74) := fun c hc j => (lr c j hc).trans ⟨fun q => q.2, fun q => ⟨al c hc, q⟩⟩
      have fp := w13p t.toInt.toNat (by omega)
      rw [z1, rL_of y15f] at fp
      have b63 := wyT_63 (l := rL w11 74) (f := f.toInt.toNat) (z := (szV V).toNat) (by omega) (n := n.toInt.toNat) (by omega) t.toInt.toNat
      exact ⟨J14, y15, rfl, Or.inr (Or.inr ⟨⟨by omega, by omega, by omega⟩, ⟨by omega, by omega⟩, rL w11 74, lv, by rw [n64_toInt (by omega), fp]⟩)⟩
    · --
      refine s_l (pc1 := 30) (ls1 := [some (.ref 65), some (.int b), some (.int f), some (.int t), some (.int n)]) (st1 := []) rfl rfl fun y16 e17 => ?_
      have e17t : y16.toInt = -1000000000000000002 := by rw [e17]; rfl
      refine aw_ret (v := some (.long y16)) rfl rfl ?_
      first
        | exact ⟨J, y16, rfl, Or.inl ⟨by omega, by have := hl0 f; have := hl0 t; omega⟩⟩
        | exact ⟨J, y16, rfl, Or.inr (Or.inl ⟨by omega, by omega, by omega⟩)⟩
  · --
    refine s_l (pc1 := 13) (ls1 := [some (.ref 65), some (.int b), some (.int f), some (.int t), some (.int n)]) (st1 := []) rfl rfl fun y18 e19 => ?_
    have e19t : y18.toInt = -1000000000000000001 := by rw [e19]; rfl
    refine aw_ret (v := some (.long y18)) rfl rfl ?_
    first
      | exact ⟨J, y18, rfl, Or.inl ⟨by omega, by have := hl0 f; have := hl0 t; omega⟩⟩
      | exact ⟨J, y18, rfl, Or.inr (Or.inl ⟨by omega, by omega, by omega⟩)⟩
theorem f_ch53 {d : Nat} {w : am_W} {Q : Option Value → am_W → Prop} (b f t n p : Int32) (hn : 0 ≤ n.toInt ∧ n.toInt ≤ 5) (hx : ∀ (wh : Int64) (i : Int32), n64 wh = 840 ^ n.toInt.toNat → aw none d 171 Q (74, [some (.ref 65), some (.int b), some (.int f), some (.int t), some (.int n), some (.int p), some (.long wh), none, some (.int i), none], []) w) : ∀ (k : Nat) (wh : Int64) (i : Int32), (n.toInt - i.toInt).toNat < k → 0 ≤ i.toInt → i.toInt ≤ n.toInt → n64 wh = 840 ^ i.toInt.toNat → aw none d 171 Q (53, [some (.ref 65), some (.int b), some (.int f), some (.int t), some (.int n), some (.int p), some (.long wh), none, some (.int i), none], []) w := by
  intro k
  induction k with
  | zero => intro wh i p; omega
  | succ k ihc =>
    intro wh i p1 p2 p3 F
    refine aw_step (f1 := (55, [some (.ref 65), some (.int b), some (.int f), some (.int t), some (.int n), some (.int p), some (.long wh), none, some (.int i), none], [(.int i)])) (w1 := w) rfl rfl ?_
    refine aw_step (f1 := (57, [some (.ref 65), some (.int b), some (.int f), some (.int t), some (.int n), some (.int p), some (.long wh), none, some (.int i), none], [(.int n), (.int i)])) (w1 := w) rfl rfl ?_
    refine s_ic 74 60 rfl rfl rfl (fun (h1 : n.toInt ≤ i.toInt) => ?_) (fun (h1 : ¬ (n.toInt ≤ i.toInt)) => ?_)
    · --
      exact hx wh i (by rw [F, show i.toInt.toNat = n.toInt.toNat by omega])
    · --
      refine aw_step (f1 := (62, [some (.ref 65), some (.int b), some (.int f), some (.int t), some (.int n), some (.int p), some (.long wh), none, some (.int i), none], [(.long wh)])) (w1 := w) rfl rfl ?_
      refine s_l (pc1 := 65) (ls1 := [some (.ref 65), some (.int b), some (.int f), some (.int t), some (.int n), some (.int p), some (.long wh), none, some (.int i), none]) (st1 := [(.long wh)]) rfl rfl fun y2 e3 => ?_
      have e3t : y2.toInt = 840 := by rw [e3]; rfl
      --
      refine s_l (pc1 := 66) (ls1 := [some (.ref 65), some (.int b), some (.int f), some (.int t), some (.int n), some (.int p), some (.long wh), none, some (.int i), none]) (st1 := []) rfl rfl fun y4 e5 => ?_
      have e5 : y4 = wh * y2 := e5
      refine aw_step (f1 := (68, [some (.ref 65), some (.int b), some (.int f), some (.int t), some (.int n), some (.int p), some (.long y4), none, some (.int i), none], [])) (w1 := w) rfl rfl ?_
      refine aw_step (f1 := (71, [some (.ref 65), some (.int b), some (.int f), some (.int t), some (.int n), some (.int p), some (.long y4), none, some (.int (i + Int32.ofInt 1)), none], [])) (w1 := w) rfl rfl ?_
      obtain ⟨x6, x6e⟩ : ∃ z, z = (i + Int32.ofInt 1) := ⟨_, rfl⟩
      have x6t : x6.toInt = i.toInt + (1) := by rw [x6e]; exact n_add (y := Int32.ofInt (1)) (by show _ ≤ _ + (1 : Int); omega) (by show _ + (1 : Int) ≤ _; omega)
      rw [← x6e]
      refine aw_step (f1 := (53, [some (.ref 65), some (.int b), some (.int f), some (.int t), some (.int n), some (.int p), some (.long y4), none, some (.int x6), none], [])) (w1 := w) rfl rfl ?_
      exact ihc y4 x6 (by omega) (by omega) (by omega) (by rw [e5, n64_mulm, F, n64_c e3t (by decide), show x6.toInt.toNat = i.toInt.toNat + 1 by omega, Nat.pow_succ]; exact Nat.mod_eq_of_lt (by have a1 : 840 ^ i.toInt.toNat ≤ 840 ^ 4 := Nat.pow_le_pow_right (by decide) (by omega); have a2 : (840 : Nat) ^ 4 = 497871360000 := (by decide); show 840 ^ i.toInt.toNat * 840 < _; omega))
theorem f_chance {d : Nat} {w : am_W} {V : Nat → Int} (R : RMs w V) (al : alV V) (b f t n p : Int32) (I : ab_inv ab_TT ab_sets w) : aw none (d + 6) 171 (fun r w1 => ab_J ab_TT ab_sets ab_WR w w1 ∧ ∃ z : Int64, r = some (.long z) ∧ chcP V b.toInt f.toInt t.toInt n.toInt p.toInt z.toInt) (0, am_entry 171 [.ref 65, .int b, .int f, .int t, .int n, .int p], []) w := by
  have J : ab_J ab_TT ab_sets ab_WR w w := ⟨I, ab_fr.rf⟩
  have szm := szM_in I
  have hsz := R.sz
  have hl0 : ∀ c : Int32, 0 ≤ c.toInt → c.toInt < szV V → rI w 66 c.toInt.toNat ≠ 126 := fun c a b => by rw [R.rc (by omega)]; exact al _ (by omega)
  show aw none (d + 6) 171 _ (0, [some (.ref 65), some (.int b), some (.int f), some (.int t), some (.int n), some (.int p), none, none, none, none], []) w
  refine aw_step (f1 := (1, [some (.ref 65), some (.int b), some (.int f), some (.int t), some (.int n), some (.int p), none, none, none, none], [(.ref 65)])) (w1 := w) rfl rfl ?_
  refine aw_step (f1 := (2, [some (.ref 65), some (.int b), some (.int f), some (.int t), some (.int n), some (.int p), none, none, none, none], [(.int b), (.ref 65)])) (w1 := w) rfl rfl ?_
  refine aw_step (f1 := (3, [some (.ref 65), some (.int b), some (.int f), some (.int t), some (.int n), some (.int p), none, none, none, none], [(.int f), (.int b), (.ref 65)])) (w1 := w) rfl rfl ?_
  refine aw_step (f1 := (4, [some (.ref 65), some (.int b), some (.int f), some (.int t), some (.int n), some (.int p), none, none, none, none], [(.int t), (.int f), (.int b), (.ref 65)])) (w1 := w) rfl rfl ?_
  refine s_cv (z := 143) (p := 65) (as := [(.int b), (.int f), (.int t)]) (st1 := []) J 7 rfl rfl rfl rfl rfl rfl rfl rfl (Nat.le_of_ble_eq_true rfl) (Nat.le_of_ble_eq_true rfl) (q_isAsked b f t J.1) ?_
  rintro _ _ ⟨rfl, x1, rfl, x1t⟩
  refine ⟨rfl, ?_⟩
  show aw none _ 171 _ (7, [some (.ref 65), some (.int b), some (.int f), some (.int t), some (.int n), some (.int p), none, none, none, none], [(.int x1)]) w
  have x1s := szM_in J.1
  refine s_if 14 10 rfl rfl rfl (fun (h2 : ¬ x1.toInt = 0) => ?_) (fun (h2 : ¬ (¬ x1.toInt = 0)) => ?_)
  · --
    refine aw_step (f1 := (16, [some (.ref 65), some (.int b), some (.int f), some (.int t), some (.int n), some (.int p), none, none, none, none], [(.int n)])) (w1 := w) rfl rfl ?_
    refine s_l (pc1 := 17) (ls1 := [some (.ref 65), some (.int b), some (.int f), some (.int t), some (.int n), some (.int p), none, none, none, none]) (st1 := []) rfl rfl fun y3 e4 => ?_
    have e4t : y3.toInt = n.toInt := by rw [e4]; exact Int32.toInt_toInt64 n
    refine s_l (pc1 := 18) (ls1 := [some (.ref 65), some (.int b), some (.int f), some (.int t), some (.int n), some (.int p), none, none, none, none]) (st1 := [(.long y3)]) rfl rfl fun y5 e6 => ?_
    have e6t : y5.toInt = 0 := by rw [e6]; rfl
    refine s_l (pc1 := 21) (ls1 := [some (.ref 65), some (.int b), some (.int f), some (.int t), some (.int n), some (.int p), none, none, none, none]) (st1 := [(.long y5), (.long y3)]) rfl rfl fun y7 e8 => ?_
    have e8t : y7.toInt = 5 := by rw [e8]; rfl
    refine s_cs (z := 108) (as := [(.long y3), (.long y5), (.long y7)]) (st1 := []) 24 rfl rfl rfl rfl rfl rfl (Nat.le_of_ble_eq_true rfl) (Nat.le_of_ble_eq_true rfl) (Nat.le_of_ble_eq_true rfl) (q_in2 y3 y5 y7) ?_
    rintro _ _ ⟨rfl, x9, rfl, x9t⟩
    refine ⟨rfl, ?_⟩
    show aw none _ 171 _ (24, [some (.ref 65), some (.int b), some (.int f), some (.int t), some (.int n), some (.int p), none, none, none, none], [(.int x9)]) w
    refine s_if 38 27 rfl rfl rfl (fun (h10 : x9.toInt = 0) => ?_) (fun (h10 : ¬ (x9.toInt = 0)) => ?_)
    · --
      refine s_l (pc1 := 41) (ls1 := [some (.ref 65), some (.int b), some (.int f), some (.int t), some (.int n), some (.int p), none, none, none, none]) (st1 := []) rfl rfl fun y11 e12 => ?_
      have e12t : y11.toInt = -1000000000000000002 := by rw [e12]; rfl
      refine aw_ret (v := some (.long y11)) rfl rfl ?_
      first
        | exact ⟨J, y11, rfl, Or.inl ⟨by omega, by have := hl0 f; have := hl0 t; omega⟩⟩
        | exact ⟨J, y11, rfl, Or.inr (Or.inl ⟨by omega, by omega, by omega⟩)⟩
    · --
      refine aw_step (f1 := (29, [some (.ref 65), some (.int b), some (.int f), some (.int t), some (.int n), some (.int p), none, none, none, none], [(.int p)])) (w1 := w) rfl rfl ?_
      refine s_l (pc1 := 30) (ls1 := [some (.ref 65), some (.int b), some (.int f), some (.int t), some (.int n), some (.int p), none, none, none, none]) (st1 := []) rfl rfl fun y13 e14 => ?_
      have e14t : y13.toInt = p.toInt := by rw [e14]; exact Int32.toInt_toInt64 p
      refine s_l (pc1 := 31) (ls1 := [some (.ref 65), some (.int b), some (.int f), some (.int t), some (.int n), some (.int p), none, none, none, none]) (st1 := [(.long y13)]) rfl rfl fun y15 e16 => ?_
      have e16t : y15.toInt = 0 := by rw [e16]; rfl
      refine s_l (pc1 := 32) (ls1 := [some (.ref 65), some (.int b), some (.int f), some (.int t), some (.int n), some (.int p), none, none, none, none]) (st1 := [(.long y15), (.long y13)]) rfl rfl fun y17 e18 => ?_
      have e18t : y17.toInt = 1 := by rw [e18]; rfl
      refine s_cs (z := 108) (as := [(.long y13), (.long y15), (.long y17)]) (st1 := []) 35 rfl rfl rfl rfl rfl rfl (Nat.le_of_ble_eq_true rfl) (Nat.le_of_ble_eq_true rfl) (Nat.le_of_ble_eq_true rfl) (q_in2 y13 y15 y17) ?_
      rintro _ _ ⟨rfl, x19, rfl, x19t⟩
      refine ⟨rfl, ?_⟩
      show aw none _ 171 _ (35, [some (.ref 65), some (.int b), some (.int f), some (.int t), some (.int n), some (.int p), none, none, none, none], [(.int x19)]) w
      refine s_if 42 38 rfl rfl rfl (fun (h20 : ¬ x19.toInt = 0) => ?_) (fun (h20 : ¬ (¬ x19.toInt = 0)) => ?_)
      · --
        refine aw_step (f1 := (43, [some (.ref 65), some (.int b), some (.int f), some (.int t), some (.int n), some (.int p), none, none, none, none], [(.ref 65)])) (w1 := w) rfl rfl ?_
        refine aw_step (f1 := (44, [some (.ref 65), some (.int b), some (.int f), some (.int t), some (.int n), some (.int p), none, none, none, none], [(.int b), (.ref 65)])) (w1 := w) rfl rfl ?_
        refine s_cv (z := 133) (p := 65) (as := [(.int b)]) (st1 := []) J 47 rfl rfl rfl rfl rfl rfl rfl rfl (Nat.le_of_ble_eq_true rfl) (Nat.le_of_ble_eq_true rfl) (q_putOn b ⟨by omega, by omega⟩ J.1) ?_
        rintro _ w21 ⟨rfl, J22c, w21o, w21p⟩
        have J22 := J.trans J22c
        refine ⟨am_len2 J J22c, ?_⟩
        show aw none _ 171 _ (47, [some (.ref 65), some (.int b), some (.int f), some (.int t), some (.int n), some (.int p), none, none, none, none], []) w21
        have z1 : szM w21 = szV V := by rw [← hsz]; exact w21o.sz (by decide)
        refine s_l (pc1 := 48) (ls1 := [some (.ref 65), some (.int b), some (.int f), some (.int t), some (.int n), some (.int p), none, none, none, none]) (st1 := []) rfl rfl fun y23 e24 => ?_
        have e24t : y23.toInt = 1 := by rw [e24]; rfl
        refine aw_step (f1 := (50, [some (.ref 65), some (.int b), some (.int f), some (.int t), some (.int n), some (.int p), some (.long y23), none, none, none], [])) (w1 := w21) rfl rfl ?_
        refine s_i (pc1 := 51) (ls1 := [some (.ref 65), some (.int b), some (.int f), some (.int t), some (.int n), some (.int p), some (.long y23), none, none, none]) (st1 := []) rfl rfl fun x25 e26 => ?_
        have e26t : x25.toInt = 0 := by rw [e26]; rfl
        refine aw_step (f1 := (53, [some (.ref 65), some (.int b), some (.int f), some (.int t), some (.int n), some (.int p), some (.long y23), none, some (.int x25), none], [])) (w1 := w21) rfl rfl ?_
        refine f_ch53 b f t n p ⟨by omega, by omega⟩ (fun wh i0 F => ?_) 6 y23 x25 (by omega) (by omega) (by omega) (by rw [n64_c e24t (by decide), show x25.toInt.toNat = 0 by omega]; rfl)
        have pw1 : 1 ≤ 840 ^ n.toInt.toNat := Nat.one_le_pow _ _ (by decide)
        have pw2 : 840 ^ n.toInt.toNat ≤ 840 ^ 5 := Nat.pow_le_pow_right (by decide) (by omega)
        have pw3 : (840 : Nat) ^ 5 = 418211942400000 := by decide
        have hwi : wh.toInt = (n64 wh : Int) := n64_toInt (by omega)
        refine aw_step (f1 := (75, [some (.ref 65), some (.int b), some (.int f), some (.int t), some (.int n), some (.int p), some (.long wh), none, some (.int i0), none], [(.ref 65)])) (w1 := w21) rfl rfl ?_
        refine aw_step (f1 := (76, [some (.ref 65), some (.int b), some (.int f), some (.int t), some (.int n), some (.int p), some (.long wh), none, some (.int i0), none], [(.int f), (.ref 65)])) (w1 := w21) rfl rfl ?_
        refine aw_step (f1 := (78, [some (.ref 65), some (.int b), some (.int f), some (.int t), some (.int n), some (.int p), some (.long wh), none, some (.int i0), none], [(.int n), (.int f), (.ref 65)])) (w1 := w21) rfl rfl ?_
        refine aw_step (f1 := (80, [some (.ref 65), some (.int b), some (.int f), some (.int t), some (.int n), some (.int p), some (.long wh), none, some (.int i0), none], [(.long wh), (.int n), (.int f), (.ref 65)])) (w1 := w21) rfl rfl ?_
        refine s_cv (z := 170) (p := 65) (as := [(.int f), (.int n), (.long wh)]) (st1 := []) J22 83 rfl rfl rfl rfl rfl rfl rfl rfl (Nat.le_of_ble_eq_true rfl) (Nat.le_of_ble_eq_true rfl) (f_findChances f n wh (by omega) ⟨by omega, by omega⟩ ⟨by omega, by omega⟩ J22.1) ?_
        rintro _ w27 ⟨rfl, J28c, w27o, w27p⟩
        have J28 := J22.trans J28c
        refine ⟨am_len2 J22 J28c, ?_⟩
        show aw none _ 171 _ (83, [some (.ref 65), some (.int b), some (.int f), some (.int t), some (.int n), some (.int p), some (.long wh), none, some (.int i0), none], []) w27
        refine aw_step (f1 := (85, [some (.ref 65), some (.int b), some (.int f), some (.int t), some (.int n), some (.int p), some (.long wh), none, some (.int i0), none], [(.long wh)])) (w1 := w27) rfl rfl ?_
        refine aw_step (f1 := (86, [some (.ref 65), some (.int b), some (.int f), some (.int t), some (.int n), some (.int p), some (.long wh), none, some (.int i0), none], [(.ref 65), (.long wh)])) (w1 := w27) rfl rfl ?_
        refine s_gr 84 J28 89 rfl rfl rfl rfl rfl rfl ?_
        refine aw_step (f1 := (90, [some (.ref 65), some (.int b), some (.int f), some (.int t), some (.int n), some (.int p), some (.long wh), none, some (.int i0), none], [(.int t), (.ref 84), (.long wh)])) (w1 := w27) rfl rfl ?_
        refine s_la J28 91 rfl rfl rfl (by omega) (by omega) fun y29 y29a y29b y29f => ?_
        have ey := (w27p t.toInt.toNat (by omega)).symm.trans (rL_of y29f)
        rw [z1, F] at ey
        have eyb := chT_a (l := rL w21 74) (f := f.toInt.toNat) (a := 840 ^ n.toInt.toNat) (z := (szV V).toNat) (by omega) n.toInt.toNat (d := t.toInt.toNat) (by omega)
        have eyi := n64_toInt (x := y29) (by omega)
        refine s_cs (z := 169) (as := [(.long wh), (.long y29)]) (st1 := []) 94 rfl rfl rfl rfl rfl rfl (Nat.le_of_ble_eq_true rfl) (Nat.le_of_ble_eq_true rfl) (Nat.le_of_ble_eq_true rfl) (f_cm wh y29 (by omega) (by omega)) ?_
        rintro _ _ ⟨rfl, y30, rfl, y30a, y30t⟩
        refine ⟨rfl, ?_⟩
        show aw none _ 171 _ (94, [some (.ref 65), some (.int b), some (.int f), some (.int t), some (.int n), some (.int p), some (.long wh), none, some (.int i0), none], [(.long y30)]) w27
        have y30i := n64_of (x := y30) y30a
        have y30p : 0 < n64 y30 := by rw [y30t]; exact Nat.gcd_pos_of_pos_left _ (by omega)
        refine aw_step (f1 := (96, [some (.ref 65), some (.int b), some (.int f), some (.int t), some (.int n), some (.int p), some (.long wh), none, some (.long y30), none], [])) (w1 := w27) rfl rfl ?_
        refine aw_step (f1 := (98, [some (.ref 65), some (.int b), some (.int f), some (.int t), some (.int n), some (.int p), some (.long wh), none, some (.long y30), none], [(.int p)])) (w1 := w27) rfl rfl ?_
        refine s_if 113 101 rfl rfl rfl (fun (h31 : ¬ p.toInt = 0) => ?_) (fun (h31 : ¬ (¬ p.toInt = 0)) => ?_)
        · --
          refine aw_step (f1 := (115, [some (.ref 65), some (.int b), some (.int f), some (.int t), some (.int n), some (.int p), some (.long wh), none, some (.long y30), none], [(.long wh)])) (w1 := w27) rfl rfl ?_
          --
          refine aw_step (f1 := (117, [some (.ref 65), some (.int b), some (.int f), some (.int t), some (.int n), some (.int p), some (.long wh), none, some (.long y30), none], [(.long y30), (.long wh)])) (w1 := w27) rfl rfl ?_
          refine s_dvl (f := fun x y => x / y) 118 rfl rfl (by omega) fun y32 e33 => ?_
          have e33 : y32 = wh / y30 := e33
          refine aw_ret (v := some (.long y32)) rfl rfl ?_
          have l67 : rI w 67 b.toInt.toNat = V (8 + 4 * b.toInt.toNat + 0) := R.ra (i := b.toInt.toNat) (c := 0) (by omega) (by decide)
          have lr := rowM_V R (by omega) w21p
          rw [l67] at lr
          have lv : lV V (V (8 + 4 * b.toInt.toNat + 0)) (rL w21 74) := fun c hc j => (lr c j hc).trans ⟨fun q => q.2, fun q => ⟨al c hc, q⟩⟩
          have dv := n64_div (x := wh) (y := y30) (by omega) (by omega)
          rw [← e33] at dv
          have zi := n64_of (x := y32) dv.2
          refine ⟨J28, y32, rfl, Or.inr (Or.inr ⟨⟨by omega, by omega, by omega⟩, ⟨by omega, by omega⟩, ⟨by omega, by omega⟩, rL w21 74, lv, ?_⟩)⟩
          rw [← zi.1, dv.1, y30t, Nat.gcd_comm (n64 wh), ← ey, F]
          first
            | rw [if_pos (by omega), ← ey2]
            | rw [if_neg (by omega)]
            | rw [if_neg (by omega), F]
        · --
          refine aw_step (f1 := (102, [some (.ref 65), some (.int b), some (.int f), some (.int t), some (.int n), some (.int p), some (.long wh), none, some (.long y30), none], [(.ref 65)])) (w1 := w27) rfl rfl ?_
          refine s_gr 84 J28 105 rfl rfl rfl rfl rfl rfl ?_
          refine aw_step (f1 := (106, [some (.ref 65), some (.int b), some (.int f), some (.int t), some (.int n), some (.int p), some (.long wh), none, some (.long y30), none], [(.int t), (.ref 84)])) (w1 := w27) rfl rfl ?_
          refine s_la J28 107 rfl rfl rfl (by omega) (by omega) fun y34 y34a y34b y34f => ?_
          have ey2 := (w27p t.toInt.toNat (by omega)).symm.trans (rL_of y34f)
          rw [z1, F] at ey2
          have ey2b := chT_a (l := rL w21 74) (f := f.toInt.toNat) (a := 840 ^ n.toInt.toNat) (z := (szV V).toNat) (by omega) n.toInt.toNat (d := t.toInt.toNat) (by omega)
          have ey2i := n64_toInt (x := y34) (by omega)
          refine aw_step (f1 := (109, [some (.ref 65), some (.int b), some (.int f), some (.int t), some (.int n), some (.int p), some (.long wh), none, some (.long y30), none], [(.long y30), (.long y34)])) (w1 := w27) rfl rfl ?_
          refine s_dvl (f := fun x y => x / y) 110 rfl rfl (by omega) fun y35 e36 => ?_
          have e36 : y35 = y34 / y30 := e36
          refine aw_step (f1 := (118, [some (.ref 65), some (.int b), some (.int f), some (.int t), some (.int n), some (.int p), some (.long wh), none, some (.long y30), none], [(.long y35)])) (w1 := w27) rfl rfl ?_
          refine aw_ret (v := some (.long y35)) rfl rfl ?_
          have l67 : rI w 67 b.toInt.toNat = V (8 + 4 * b.toInt.toNat + 0) := R.ra (i := b.toInt.toNat) (c := 0) (by omega) (by decide)
          have lr := rowM_V R (by omega) w21p
          rw [l67] at lr
          have lv : lV V (V (8 + 4 * b.toInt.toNat + 0)) (rL w21 74) := fun c hc j => (lr c j hc).trans ⟨fun q => q.2, fun q => ⟨al c hc, q⟩⟩
          have dv := n64_div (x := y34) (y := y30) (by omega) (by omega)
          rw [← e36] at dv
          have zi := n64_of (x := y35) dv.2
          refine ⟨J28, y35, rfl, Or.inr (Or.inr ⟨⟨by omega, by omega, by omega⟩, ⟨by omega, by omega⟩, ⟨by omega, by omega⟩, rL w21 74, lv, ?_⟩)⟩
          rw [← zi.1, dv.1, y30t, Nat.gcd_comm (n64 wh), ← ey, F]
          first
            | rw [if_pos (by omega), ← ey2]
            | rw [if_neg (by omega)]
            | rw [if_neg (by omega), F]
      · --
        refine s_l (pc1 := 41) (ls1 := [some (.ref 65), some (.int b), some (.int f), some (.int t), some (.int n), some (.int p), none, none, none, none]) (st1 := []) rfl rfl fun y37 e38 => ?_
        have e38t : y37.toInt = -1000000000000000002 := by rw [e38]; rfl
        refine aw_ret (v := some (.long y37)) rfl rfl ?_
        first
          | exact ⟨J, y37, rfl, Or.inl ⟨by omega, by have := hl0 f; have := hl0 t; omega⟩⟩
          | exact ⟨J, y37, rfl, Or.inr (Or.inl ⟨by omega, by omega, by omega⟩)⟩
  · --
    refine s_l (pc1 := 13) (ls1 := [some (.ref 65), some (.int b), some (.int f), some (.int t), some (.int n), some (.int p), none, none, none, none]) (st1 := []) rfl rfl fun y39 e40 => ?_
    have e40t : y39.toInt = -1000000000000000001 := by rw [e40]; rfl
    refine aw_ret (v := some (.long y39)) rfl rfl ?_
    first
      | exact ⟨J, y39, rfl, Or.inl ⟨by omega, by have := hl0 f; have := hl0 t; omega⟩⟩
      | exact ⟨J, y39, rfl, Or.inr (Or.inl ⟨by omega, by omega, by omega⟩)⟩
