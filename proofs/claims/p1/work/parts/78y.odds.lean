/-! ===== the public three of the model, where all cells are land ===== -/
theorem f_cmL {d g : Nat} {w : am_W} (a b : Int64) : ∀ (m : Nat) (x y : Int64) (o8 o9 : Option Value), n64 y < m → 0 ≤ x.toInt → 0 ≤ y.toInt → Nat.gcd (n64 x) (n64 y) = g → aw none d 169 (fun r w1 => w = w1 ∧ ∃ z : Int64, r = some (.long z) ∧ 0 ≤ z.toInt ∧ n64 z = g) (6, [some (.long a), none, some (.long b), none, some (.long x), none, some (.long y), none, o8, o9], []) w := by
  intro m
  induction m with
  | zero => intro x y o8 o9 p; omega
  | succ m ih =>
    intro x y o8 o9 p1 p4 p5 hg
    refine aw_step (f1 := (8, [some (.long a), none, some (.long b), none, some (.long x), none, some (.long y), none, o8, o9], [(.long y)])) (w1 := w) rfl rfl ?_
    refine s_l (pc1 := 9) (ls1 := [some (.long a), none, some (.long b), none, some (.long x), none, some (.long y), none, o8, o9]) (st1 := [(.long y)]) rfl rfl fun y1 e2 => ?_
    have e2t : y1.toInt = 0 := by rw [e2]; rfl
    refine s_lc 31 13 10 rfl rfl rfl rfl rfl (fun (h3 : y.toInt = y1.toInt) => ?_) (fun (h3 : ¬ (y.toInt = y1.toInt)) => ?_)
    · --
      refine aw_step (f1 := (33, [some (.long a), none, some (.long b), none, some (.long x), none, some (.long y), none, o8, o9], [(.long x)])) (w1 := w) rfl rfl ?_
      refine aw_ret (v := some (.long x)) rfl rfl ?_
      refine ⟨rfl, x, rfl, by omega, ?_⟩
      rw [← hg, n64_z.mp (show y.toInt = 0 by omega), Nat.gcd_zero_right]
    · --
      refine aw_step (f1 := (15, [some (.long a), none, some (.long b), none, some (.long x), none, some (.long y), none, o8, o9], [(.long x)])) (w1 := w) rfl rfl ?_
      refine aw_step (f1 := (17, [some (.long a), none, some (.long b), none, some (.long x), none, some (.long y), none, o8, o9], [(.long y), (.long x)])) (w1 := w) rfl rfl ?_
      refine s_dvl (f := fun x y => x - x / y * y) 18 rfl rfl (by omega) fun y4 e5 => ?_
      have e5 : y4 = x - x / y * y := e5
      refine aw_step (f1 := (20, [some (.long a), none, some (.long b), none, some (.long x), none, some (.long y), none, some (.long y4), none], [])) (w1 := w) rfl rfl ?_
      refine aw_step (f1 := (22, [some (.long a), none, some (.long b), none, some (.long x), none, some (.long y), none, some (.long y4), none], [(.long y)])) (w1 := w) rfl rfl ?_
      refine aw_step (f1 := (24, [some (.long a), none, some (.long b), none, some (.long y), none, some (.long y), none, some (.long y4), none], [])) (w1 := w) rfl rfl ?_
      refine aw_step (f1 := (26, [some (.long a), none, some (.long b), none, some (.long y), none, some (.long y), none, some (.long y4), none], [(.long y4)])) (w1 := w) rfl rfl ?_
      refine aw_step (f1 := (28, [some (.long a), none, some (.long b), none, some (.long y), none, some (.long y4), none, some (.long y4), none], [])) (w1 := w) rfl rfl ?_
      refine aw_step (f1 := (6, [some (.long a), none, some (.long b), none, some (.long y), none, some (.long y4), none, some (.long y4), none], [])) (w1 := w) rfl rfl ?_
      have yp : 0 < y.toInt := by omega
      obtain ⟨rm1, rm2⟩ := n64_rem (x := x) (y := y) (by omega) yp
      rw [← e5] at rm1 rm2
      have yn := (n64_of (x := y) (by omega)).1
      have lt : n64 x % n64 y < n64 y := Nat.mod_lt _ (by omega)
      exact ih y y4 _ _ (by omega) (by omega) (by omega) (by rw [rm1, ← hg, Nat.gcd_comm (n64 x) (n64 y), Nat.gcd_rec (n64 y) (n64 x), Nat.gcd_comm])
theorem f_cm {d : Nat} {w : am_W} (a b : Int64) (ha : 0 ≤ a.toInt) (hb : 0 ≤ b.toInt) : aw none d 169 (fun r w1 => w = w1 ∧ ∃ z : Int64, r = some (.long z) ∧ 0 ≤ z.toInt ∧ n64 z = Nat.gcd (n64 a) (n64 b)) (0, am_entry 169 [.long a, .long b], []) w := by
  show aw none d 169 _ (0, [some (.long a), none, some (.long b), none, none, none, none, none, none, none], []) w
  refine aw_step (f1 := (1, [some (.long a), none, some (.long b), none, none, none, none, none, none, none], [(.long a)])) (w1 := w) rfl rfl ?_
  refine aw_step (f1 := (3, [some (.long a), none, some (.long b), none, some (.long a), none, none, none, none, none], [])) (w1 := w) rfl rfl ?_
  refine aw_step (f1 := (4, [some (.long a), none, some (.long b), none, some (.long a), none, none, none, none, none], [(.long b)])) (w1 := w) rfl rfl ?_
  refine aw_step (f1 := (6, [some (.long a), none, some (.long b), none, some (.long a), none, some (.long b), none, none, none], [])) (w1 := w) rfl rfl ?_
  exact f_cmL a b (n64 b + 1) a b none none (by omega) ha hb rfl
theorem f_ways {d : Nat} {w : am_W} {V : Nat → Int} (R : RMs w V) (al : alV V) (b f t n : Int32) (I : ab_inv ab_TT ab_sets w) : aw none (d + 6) 168 (fun r w1 => ab_J ab_TT ab_sets ab_WR w w1 ∧ ∃ z : Int64, r = some (.long z) ∧ wayP V b.toInt f.toInt t.toInt n.toInt z.toInt) (0, am_entry 168 [.ref 65, .int b, .int f, .int t, .int n], []) w := by
  have J : ab_J ab_TT ab_sets ab_WR w w := ⟨I, ab_fr.rf⟩
  have szm := szM_in I
  have hsz := R.sz
  have hl0 : ∀ c : Int32, 0 ≤ c.toInt → c.toInt < szV V → rI w 66 c.toInt.toNat ≠ 126 := fun c a b => by rw [R.rc (by omega)]; exact al _ (by omega)
  show aw none (d + 6) 168 _ (0, [some (.ref 65), some (.int b), some (.int f), some (.int t), some (.int n)], []) w
  refine aw_step (f1 := (1, [some (.ref 65), some (.int b), some (.int f), some (.int t), some (.int n)], [(.ref 65)])) (w1 := w) rfl rfl ?_
  refine aw_step (f1 := (2, [some (.ref 65), some (.int b), some (.int f), some (.int t), some (.int n)], [(.int b), (.ref 65)])) (w1 := w) rfl rfl ?_
  refine aw_step (f1 := (3, [some (.ref 65), some (.int b), some (.int f), some (.int t), some (.int n)], [(.int f), (.int b), (.ref 65)])) (w1 := w) rfl rfl ?_
  refine aw_step (f1 := (4, [some (.ref 65), some (.int b), some (.int f), some (.int t), some (.int n)], [(.int t), (.int f), (.int b), (.ref 65)])) (w1 := w) rfl rfl ?_
  refine s_cv (z := 143) (p := 65) (as := [(.int b), (.int f), (.int t)]) (st1 := []) J 7 rfl rfl rfl rfl rfl rfl rfl rfl (Nat.le_of_ble_eq_true rfl) (Nat.le_of_ble_eq_true rfl) (q_isAsked b f t J.1) ?_
  rintro _ _ ⟨rfl, x1, rfl, x1t⟩
  refine ⟨rfl, ?_⟩
  show aw none _ 168 _ (7, [some (.ref 65), some (.int b), some (.int f), some (.int t), some (.int n)], [(.int x1)]) w
  have x1s := szM_in J.1
  refine s_if 14 10 rfl rfl rfl (fun (h2 : ¬ x1.toInt = 0) => ?_) (fun (h2 : ¬ (¬ x1.toInt = 0)) => ?_)
  · --
    refine aw_step (f1 := (16, [some (.ref 65), some (.int b), some (.int f), some (.int t), some (.int n)], [(.int n)])) (w1 := w) rfl rfl ?_
    refine s_l (pc1 := 17) (ls1 := [some (.ref 65), some (.int b), some (.int f), some (.int t), some (.int n)]) (st1 := []) rfl rfl fun y3 e4 => ?_
    have e4t : y3.toInt = n.toInt := by rw [e4]; exact Int32.toInt_toInt64 n
    refine s_l (pc1 := 18) (ls1 := [some (.ref 65), some (.int b), some (.int f), some (.int t), some (.int n)]) (st1 := [(.long y3)]) rfl rfl fun y5 e6 => ?_
    have e6t : y5.toInt = 0 := by rw [e6]; rfl
    refine s_l (pc1 := 21) (ls1 := [some (.ref 65), some (.int b), some (.int f), some (.int t), some (.int n)]) (st1 := [(.long y5), (.long y3)]) rfl rfl fun y7 e8 => ?_
    have e8t : y7.toInt = 12 := by rw [e8]; rfl
    refine s_cs (z := 108) (as := [(.long y3), (.long y5), (.long y7)]) (st1 := []) 24 rfl rfl rfl rfl rfl rfl (Nat.le_of_ble_eq_true rfl) (Nat.le_of_ble_eq_true rfl) (Nat.le_of_ble_eq_true rfl) (q_in2 y3 y5 y7) ?_
    rintro _ _ ⟨rfl, x9, rfl, x9t⟩
    refine ⟨rfl, ?_⟩
    show aw none _ 168 _ (24, [some (.ref 65), some (.int b), some (.int f), some (.int t), some (.int n)], [(.int x9)]) w
    refine s_if 31 27 rfl rfl rfl (fun (h10 : ¬ x9.toInt = 0) => ?_) (fun (h10 : ¬ (¬ x9.toInt = 0)) => ?_)
    · --
      refine aw_step (f1 := (32, [some (.ref 65), some (.int b), some (.int f), some (.int t), some (.int n)], [(.ref 65)])) (w1 := w) rfl rfl ?_
      refine aw_step (f1 := (33, [some (.ref 65), some (.int b), some (.int f), some (.int t), some (.int n)], [(.int b), (.ref 65)])) (w1 := w) rfl rfl ?_
      refine s_cv (z := 133) (p := 65) (as := [(.int b)]) (st1 := []) J 36 rfl rfl rfl rfl rfl rfl rfl rfl (Nat.le_of_ble_eq_true rfl) (Nat.le_of_ble_eq_true rfl) (q_putOn b ⟨by omega, by omega⟩ J.1) ?_
      rintro _ w11 ⟨rfl, J12c, w11o, w11p⟩
      have J12 := J.trans J12c
      refine ⟨am_len2 J J12c, ?_⟩
      show aw none _ 168 _ (36, [some (.ref 65), some (.int b), some (.int f), some (.int t), some (.int n)], []) w11
      have z1 : szM w11 = szV V := by rw [← hsz]; exact w11o.sz (by decide)
      refine aw_step (f1 := (37, [some (.ref 65), some (.int b), some (.int f), some (.int t), some (.int n)], [(.ref 65)])) (w1 := w11) rfl rfl ?_
      refine aw_step (f1 := (38, [some (.ref 65), some (.int b), some (.int f), some (.int t), some (.int n)], [(.int f), (.ref 65)])) (w1 := w11) rfl rfl ?_
      refine aw_step (f1 := (40, [some (.ref 65), some (.int b), some (.int f), some (.int t), some (.int n)], [(.int n), (.int f), (.ref 65)])) (w1 := w11) rfl rfl ?_
      refine s_cv (z := 166) (p := 65) (as := [(.int f), (.int n)]) (st1 := []) J12 43 rfl rfl rfl rfl rfl rfl rfl rfl (Nat.le_of_ble_eq_true rfl) (Nat.le_of_ble_eq_true rfl) (f_findWays f n ⟨by omega, by omega⟩ ⟨by omega, by omega⟩ J12.1) ?_
      rintro _ w13 ⟨rfl, J14c, w13o, w13p⟩
      have J14 := J12.trans J14c
      refine ⟨am_len2 J12 J14c, ?_⟩
      show aw none _ 168 _ (43, [some (.ref 65), some (.int b), some (.int f), some (.int t), some (.int n)], []) w13
      refine aw_step (f1 := (44, [some (.ref 65), some (.int b), some (.int f), some (.int t), some (.int n)], [(.ref 65)])) (w1 := w13) rfl rfl ?_
      refine s_gr 84 J14 47 rfl rfl rfl rfl rfl rfl ?_
      refine aw_step (f1 := (48, [some (.ref 65), some (.int b), some (.int f), some (.int t), some (.int n)], [(.int t), (.ref 84)])) (w1 := w13) rfl rfl ?_
      refine s_la J14 49 rfl rfl rfl (by omega) (by omega) fun y15 y15a y15b y15f => ?_
      refine aw_ret (v := some (.long y15)) rfl rfl ?_
      have l67 : rI w 67 b.toInt.toNat = V (8 + 4 * b.toInt.toNat + 0) := R.ra (i := b.toInt.toNat) (c := 0) (by omega) (by decide)
      have lr := rowM_V R (by omega) w11p
      rw [l67] at lr
      have lv : lV V (V (8 + 4 * b.toInt.toNat + 0)) (rL w11 74) := fun c hc j => (lr c j hc).trans ⟨fun q => q.2, fun q => ⟨al c hc, q⟩⟩
      have fp := w13p t.toInt.toNat (by omega)
      rw [z1, rL_of y15f] at fp
      have b63 := wyT_63 (l := rL w11 74) (f := f.toInt.toNat) (z := (szV V).toNat) (by omega) (n := n.toInt.toNat) (by omega) t.toInt.toNat
      exact ⟨J14, y15, rfl, Or.inr (Or.inr ⟨⟨by omega, by omega, by omega⟩, ⟨by omega, by omega⟩, rL w11 74, lv, by rw [n64_toInt (by omega), fp]⟩)⟩
    · --
      refine s_l (pc1 := 30) (ls1 := [some (.ref 65), some (.int b), some (.int f), some (.int t), some (.int n)]) (st1 := []) rfl rfl fun y16 e17 => ?_
      have e17t : y16.toInt = -1000000000000000002 := by rw [e17]; rfl
      refine aw_ret (v := some (.long y16)) rfl rfl ?_
      first
        | exact ⟨J, y16, rfl, Or.inl ⟨by omega, by have := hl0 f; have := hl0 t; omega⟩⟩
        | exact ⟨J, y16, rfl, Or.inr (Or.inl ⟨by omega, by omega, by omega⟩)⟩
  · --
    refine s_l (pc1 := 13) (ls1 := [some (.ref 65), some (.int b), some (.int f), some (.int t), some (.int n)]) (st1 := []) rfl rfl fun y18 e19 => ?_
    have e19t : y18.toInt = -1000000000000000001 := by rw [e19]; rfl
    refine aw_ret (v := some (.long y18)) rfl rfl ?_
    first
      | exact ⟨J, y18, rfl, Or.inl ⟨by omega, by have := hl0 f; have := hl0 t; omega⟩⟩
      | exact ⟨J, y18, rfl, Or.inr (Or.inl ⟨by omega, by omega, by omega⟩)⟩
theorem f_ch53 {d : Nat} {w : am_W} {Q : Option Value → am_W → Prop} (b f t n p : Int32) (hn : 0 ≤ n.toInt ∧ n.toInt ≤ 5) (hx : ∀ (wh : Int64) (i : Int32), n64 wh = 840 ^ n.toInt.toNat → aw none d 171 Q (74, [some (.ref 65), some (.int b), some (.int f), some (.int t), some (.int n), some (.int p), some (.long wh), none, some (.int i), none], []) w) : ∀ (k : Nat) (wh : Int64) (i : Int32), (n.toInt - i.toInt).toNat < k → 0 ≤ i.toInt → i.toInt ≤ n.toInt → n64 wh = 840 ^ i.toInt.toNat → aw none d 171 Q (53, [some (.ref 65), some (.int b), some (.int f), some (.int t), some (.int n), some (.int p), some (.long wh), none, some (.int i), none], []) w := by
  intro k
  induction k with
  | zero => intro wh i p; omega
  | succ k ihc =>
    intro wh i p1 p2 p3 F
    refine aw_step (f1 := (55, [some (.ref 65), some (.int b), some (.int f), some (.int t), some (.int n), some (.int p), some (.long wh), none, some (.int i), none], [(.int i)])) (w1 := w) rfl rfl ?_
    refine aw_step (f1 := (57, [some (.ref 65), some (.int b), some (.int f), some (.int t), some (.int n), some (.int p), some (.long wh), none, some (.int i), none], [(.int n), (.int i)])) (w1 := w) rfl rfl ?_
    refine s_ic 74 60 rfl rfl rfl (fun (h1 : n.toInt ≤ i.toInt) => ?_) (fun (h1 : ¬ (n.toInt ≤ i.toInt)) => ?_)
    · --
      exact hx wh i (by rw [F, show i.toInt.toNat = n.toInt.toNat by omega])
    · --
      refine aw_step (f1 := (62, [some (.ref 65), some (.int b), some (.int f), some (.int t), some (.int n), some (.int p), some (.long wh), none, some (.int i), none], [(.long wh)])) (w1 := w) rfl rfl ?_
      refine s_l (pc1 := 65) (ls1 := [some (.ref 65), some (.int b), some (.int f), some (.int t), some (.int n), some (.int p), some (.long wh), none, some (.int i), none]) (st1 := [(.long wh)]) rfl rfl fun y2 e3 => ?_
      have e3t : y2.toInt = 840 := by rw [e3]; rfl
      --
      refine s_l (pc1 := 66) (ls1 := [some (.ref 65), some (.int b), some (.int f), some (.int t), some (.int n), some (.int p), some (.long wh), none, some (.int i), none]) (st1 := []) rfl rfl fun y4 e5 => ?_
      have e5 : y4 = wh * y2 := e5
      refine aw_step (f1 := (68, [some (.ref 65), some (.int b), some (.int f), some (.int t), some (.int n), some (.int p), some (.long y4), none, some (.int i), none], [])) (w1 := w) rfl rfl ?_
      refine aw_step (f1 := (71, [some (.ref 65), some (.int b), some (.int f), some (.int t), some (.int n), some (.int p), some (.long y4), none, some (.int (i + Int32.ofInt 1)), none], [])) (w1 := w) rfl rfl ?_
      obtain ⟨x6, x6e⟩ : ∃ z, z = (i + Int32.ofInt 1) := ⟨_, rfl⟩
      have x6t : x6.toInt = i.toInt + (1) := by rw [x6e]; exact n_add (y := Int32.ofInt (1)) (by show _ ≤ _ + (1 : Int); omega) (by show _ + (1 : Int) ≤ _; omega)
      rw [← x6e]
      refine aw_step (f1 := (53, [some (.ref 65), some (.int b), some (.int f), some (.int t), some (.int n), some (.int p), some (.long y4), none, some (.int x6), none], [])) (w1 := w) rfl rfl ?_
      exact ihc y4 x6 (by omega) (by omega) (by omega) (by rw [e5, n64_mulm, F, n64_c e3t (by decide), show x6.toInt.toNat = i.toInt.toNat + 1 by omega, Nat.pow_succ]; exact Nat.mod_eq_of_lt (by have a1 : 840 ^ i.toInt.toNat ≤ 840 ^ 4 := Nat.pow_le_pow_right (by decide) (by omega); have a2 : (840 : Nat) ^ 4 = 497871360000 := (by decide); show 840 ^ i.toInt.toNat * 840 < _; omega))
theorem f_chance {d : Nat} {w : am_W} {V : Nat → Int} (R : RMs w V) (al : alV V) (b f t n p : Int32) (I : ab_inv ab_TT ab_sets w) : aw none (d + 6) 171 (fun r w1 => ab_J ab_TT ab_sets ab_WR w w1 ∧ ∃ z : Int64, r = some (.long z) ∧ chcP V b.toInt f.toInt t.toInt n.toInt p.toInt z.toInt) (0, am_entry 171 [.ref 65, .int b, .int f, .int t, .int n, .int p], []) w := by
  have J : ab_J ab_TT ab_sets ab_WR w w := ⟨I, ab_fr.rf⟩
  have szm := szM_in I
  have hsz := R.sz
  have hl0 : ∀ c : Int32, 0 ≤ c.toInt → c.toInt < szV V → rI w 66 c.toInt.toNat ≠ 126 := fun c a b => by rw [R.rc (by omega)]; exact al _ (by omega)
  show aw none (d + 6) 171 _ (0, [some (.ref 65), some (.int b), some (.int f), some (.int t), some (.int n), some (.int p), none, none, none, none], []) w
  refine aw_step (f1 := (1, [some (.ref 65), some (.int b), some (.int f), some (.int t), some (.int n), some (.int p), none, none, none, none], [(.ref 65)])) (w1 := w) rfl rfl ?_
  refine aw_step (f1 := (2, [some (.ref 65), some (.int b), some (.int f), some (.int t), some (.int n), some (.int p), none, none, none, none], [(.int b), (.ref 65)])) (w1 := w) rfl rfl ?_
  refine aw_step (f1 := (3, [some (.ref 65), some (.int b), some (.int f), some (.int t), some (.int n), some (.int p), none, none, none, none], [(.int f), (.int b), (.ref 65)])) (w1 := w) rfl rfl ?_
  refine aw_step (f1 := (4, [some (.ref 65), some (.int b), some (.int f), some (.int t), some (.int n), some (.int p), none, none, none, none], [(.int t), (.int f), (.int b), (.ref 65)])) (w1 := w) rfl rfl ?_
  refine s_cv (z := 143) (p := 65) (as := [(.int b), (.int f), (.int t)]) (st1 := []) J 7 rfl rfl rfl rfl rfl rfl rfl rfl (Nat.le_of_ble_eq_true rfl) (Nat.le_of_ble_eq_true rfl) (q_isAsked b f t J.1) ?_
  rintro _ _ ⟨rfl, x1, rfl, x1t⟩
  refine ⟨rfl, ?_⟩
  show aw none _ 171 _ (7, [some (.ref 65), some (.int b), some (.int f), some (.int t), some (.int n), some (.int p), none, none, none, none], [(.int x1)]) w
  have x1s := szM_in J.1
  refine s_if 14 10 rfl rfl rfl (fun (h2 : ¬ x1.toInt = 0) => ?_) (fun (h2 : ¬ (¬ x1.toInt = 0)) => ?_)
  · --
    refine aw_step (f1 := (16, [some (.ref 65), some (.int b), some (.int f), some (.int t), some (.int n), some (.int p), none, none, none, none], [(.int n)])) (w1 := w) rfl rfl ?_
    refine s_l (pc1 := 17) (ls1 := [some (.ref 65), some (.int b), some (.int f), some (.int t), some (.int n), some (.int p), none, none, none, none]) (st1 := []) rfl rfl fun y3 e4 => ?_
    have e4t : y3.toInt = n.toInt := by rw [e4]; exact Int32.toInt_toInt64 n
    refine s_l (pc1 := 18) (ls1 := [some (.ref 65), some (.int b), some (.int f), some (.int t), some (.int n), some (.int p), none, none, none, none]) (st1 := [(.long y3)]) rfl rfl fun y5 e6 => ?_
    have e6t : y5.toInt = 0 := by rw [e6]; rfl
    refine s_l (pc1 := 21) (ls1 := [some (.ref 65), some (.int b), some (.int f), some (.int t), some (.int n), some (.int p), none, none, none, none]) (st1 := [(.long y5), (.long y3)]) rfl rfl fun y7 e8 => ?_
    have e8t : y7.toInt = 5 := by rw [e8]; rfl
    refine s_cs (z := 108) (as := [(.long y3), (.long y5), (.long y7)]) (st1 := []) 24 rfl rfl rfl rfl rfl rfl (Nat.le_of_ble_eq_true rfl) (Nat.le_of_ble_eq_true rfl) (Nat.le_of_ble_eq_true rfl) (q_in2 y3 y5 y7) ?_
    rintro _ _ ⟨rfl, x9, rfl, x9t⟩
    refine ⟨rfl, ?_⟩
    show aw none _ 171 _ (24, [some (.ref 65), some (.int b), some (.int f), some (.int t), some (.int n), some (.int p), none, none, none, none], [(.int x9)]) w
    refine s_if 38 27 rfl rfl rfl (fun (h10 : x9.toInt = 0) => ?_) (fun (h10 : ¬ (x9.toInt = 0)) => ?_)
    · --
      refine s_l (pc1 := 41) (ls1 := [some (.ref 65), some (.int b), some (.int f), some (.int t), some (.int n), some (.int p), none, none, none, none]) (st1 := []) rfl rfl fun y11 e12 => ?_
      have e12t : y11.toInt = -1000000000000000002 := by rw [e12]; rfl
      refine aw_ret (v := some (.long y11)) rfl rfl ?_
      first
        | exact ⟨J, y11, rfl, Or.inl ⟨by omega, by have := hl0 f; have := hl0 t; omega⟩⟩
        | exact ⟨J, y11, rfl, Or.inr (Or.inl ⟨by omega, by omega, by omega⟩)⟩
    · --
      refine aw_step (f1 := (29, [some (.ref 65), some (.int b), some (.int f), some (.int t), some (.int n), some (.int p), none, none, none, none], [(.int p)])) (w1 := w) rfl rfl ?_
      refine s_l (pc1 := 30) (ls1 := [some (.ref 65), some (.int b), some (.int f), some (.int t), some (.int n), some (.int p), none, none, none, none]) (st1 := []) rfl rfl fun y13 e14 => ?_
      have e14t : y13.toInt = p.toInt := by rw [e14]; exact Int32.toInt_toInt64 p
      refine s_l (pc1 := 31) (ls1 := [some (.ref 65), some (.int b), some (.int f), some (.int t), some (.int n), some (.int p), none, none, none, none]) (st1 := [(.long y13)]) rfl rfl fun y15 e16 => ?_
      have e16t : y15.toInt = 0 := by rw [e16]; rfl
      refine s_l (pc1 := 32) (ls1 := [some (.ref 65), some (.int b), some (.int f), some (.int t), some (.int n), some (.int p), none, none, none, none]) (st1 := [(.long y15), (.long y13)]) rfl rfl fun y17 e18 => ?_
      have e18t : y17.toInt = 1 := by rw [e18]; rfl
      refine s_cs (z := 108) (as := [(.long y13), (.long y15), (.long y17)]) (st1 := []) 35 rfl rfl rfl rfl rfl rfl (Nat.le_of_ble_eq_true rfl) (Nat.le_of_ble_eq_true rfl) (Nat.le_of_ble_eq_true rfl) (q_in2 y13 y15 y17) ?_
      rintro _ _ ⟨rfl, x19, rfl, x19t⟩
      refine ⟨rfl, ?_⟩
      show aw none _ 171 _ (35, [some (.ref 65), some (.int b), some (.int f), some (.int t), some (.int n), some (.int p), none, none, none, none], [(.int x19)]) w
      refine s_if 42 38 rfl rfl rfl (fun (h20 : ¬ x19.toInt = 0) => ?_) (fun (h20 : ¬ (¬ x19.toInt = 0)) => ?_)
      · --
        refine aw_step (f1 := (43, [some (.ref 65), some (.int b), some (.int f), some (.int t), some (.int n), some (.int p), none, none, none, none], [(.ref 65)])) (w1 := w) rfl rfl ?_
        refine aw_step (f1 := (44, [some (.ref 65), some (.int b), some (.int f), some (.int t), some (.int n), some (.int p), none, none, none, none], [(.int b), (.ref 65)])) (w1 := w) rfl rfl ?_
        refine s_cv (z := 133) (p := 65) (as := [(.int b)]) (st1 := []) J 47 rfl rfl rfl rfl rfl rfl rfl rfl (Nat.le_of_ble_eq_true rfl) (Nat.le_of_ble_eq_true rfl) (q_putOn b ⟨by omega, by omega⟩ J.1) ?_
        rintro _ w21 ⟨rfl, J22c, w21o, w21p⟩
        have J22 := J.trans J22c
        refine ⟨am_len2 J J22c, ?_⟩
        show aw none _ 171 _ (47, [some (.ref 65), some (.int b), some (.int f), some (.int t), some (.int n), some (.int p), none, none, none, none], []) w21
        have z1 : szM w21 = szV V := by rw [← hsz]; exact w21o.sz (by decide)
        refine s_l (pc1 := 48) (ls1 := [some (.ref 65), some (.int b), some (.int f), some (.int t), some (.int n), some (.int p), none, none, none, none]) (st1 := []) rfl rfl fun y23 e24 => ?_
        have e24t : y23.toInt = 1 := by rw [e24]; rfl
        refine aw_step (f1 := (50, [some (.ref 65), some (.int b), some (.int f), some (.int t), some (.int n), some (.int p), some (.long y23), none, none, none], [])) (w1 := w21) rfl rfl ?_
        refine s_i (pc1 := 51) (ls1 := [some (.ref 65), some (.int b), some (.int f), some (.int t), some (.int n), some (.int p), some (.long y23), none, none, none]) (st1 := []) rfl rfl fun x25 e26 => ?_
        have e26t : x25.toInt = 0 := by rw [e26]; rfl
        refine aw_step (f1 := (53, [some (.ref 65), some (.int b), some (.int f), some (.int t), some (.int n), some (.int p), some (.long y23), none, some (.int x25), none], [])) (w1 := w21) rfl rfl ?_
        refine f_ch53 b f t n p ⟨by omega, by omega⟩ (fun wh i0 F => ?_) 6 y23 x25 (by omega) (by omega) (by omega) (by rw [n64_c e24t (by decide), show x25.toInt.toNat = 0 by omega]; rfl)
        have pw1 : 1 ≤ 840 ^ n.toInt.toNat := Nat.one_le_pow _ _ (by decide)
        have pw2 : 840 ^ n.toInt.toNat ≤ 840 ^ 5 := Nat.pow_le_pow_right (by decide) (by omega)
        have pw3 : (840 : Nat) ^ 5 = 418211942400000 := by decide
        have hwi : wh.toInt = (n64 wh : Int) := n64_toInt (by omega)
        refine aw_step (f1 := (75, [some (.ref 65), some (.int b), some (.int f), some (.int t), some (.int n), some (.int p), some (.long wh), none, some (.int i0), none], [(.ref 65)])) (w1 := w21) rfl rfl ?_
        refine aw_step (f1 := (76, [some (.ref 65), some (.int b), some (.int f), some (.int t), some (.int n), some (.int p), some (.long wh), none, some (.int i0), none], [(.int f), (.ref 65)])) (w1 := w21) rfl rfl ?_
        refine aw_step (f1 := (78, [some (.ref 65), some (.int b), some (.int f), some (.int t), some (.int n), some (.int p), some (.long wh), none, some (.int i0), none], [(.int n), (.int f), (.ref 65)])) (w1 := w21) rfl rfl ?_
        refine aw_step (f1 := (80, [some (.ref 65), some (.int b), some (.int f), some (.int t), some (.int n), some (.int p), some (.long wh), none, some (.int i0), none], [(.long wh), (.int n), (.int f), (.ref 65)])) (w1 := w21) rfl rfl ?_
        refine s_cv (z := 170) (p := 65) (as := [(.int f), (.int n), (.long wh)]) (st1 := []) J22 83 rfl rfl rfl rfl rfl rfl rfl rfl (Nat.le_of_ble_eq_true rfl) (Nat.le_of_ble_eq_true rfl) (f_findChances f n wh (by omega) ⟨by omega, by omega⟩ ⟨by omega, by omega⟩ J22.1) ?_
        rintro _ w27 ⟨rfl, J28c, w27o, w27p⟩
        have J28 := J22.trans J28c
        refine ⟨am_len2 J22 J28c, ?_⟩
        show aw none _ 171 _ (83, [some (.ref 65), some (.int b), some (.int f), some (.int t), some (.int n), some (.int p), some (.long wh), none, some (.int i0), none], []) w27
        refine aw_step (f1 := (85, [some (.ref 65), some (.int b), some (.int f), some (.int t), some (.int n), some (.int p), some (.long wh), none, some (.int i0), none], [(.long wh)])) (w1 := w27) rfl rfl ?_
        refine aw_step (f1 := (86, [some (.ref 65), some (.int b), some (.int f), some (.int t), some (.int n), some (.int p), some (.long wh), none, some (.int i0), none], [(.ref 65), (.long wh)])) (w1 := w27) rfl rfl ?_
        refine s_gr 84 J28 89 rfl rfl rfl rfl rfl rfl ?_
        refine aw_step (f1 := (90, [some (.ref 65), some (.int b), some (.int f), some (.int t), some (.int n), some (.int p), some (.long wh), none, some (.int i0), none], [(.int t), (.ref 84), (.long wh)])) (w1 := w27) rfl rfl ?_
        refine s_la J28 91 rfl rfl rfl (by omega) (by omega) fun y29 y29a y29b y29f => ?_
        have ey := (w27p t.toInt.toNat (by omega)).symm.trans (rL_of y29f)
        rw [z1, F] at ey
        have eyb := chT_a (l := rL w21 74) (f := f.toInt.toNat) (a := 840 ^ n.toInt.toNat) (z := (szV V).toNat) (by omega) n.toInt.toNat (d := t.toInt.toNat) (by omega)
        have eyi := n64_toInt (x := y29) (by omega)
        refine s_cs (z := 169) (as := [(.long wh), (.long y29)]) (st1 := []) 94 rfl rfl rfl rfl rfl rfl (Nat.le_of_ble_eq_true rfl) (Nat.le_of_ble_eq_true rfl) (Nat.le_of_ble_eq_true rfl) (f_cm wh y29 (by omega) (by omega)) ?_
        rintro _ _ ⟨rfl, y30, rfl, y30a, y30t⟩
        refine ⟨rfl, ?_⟩
        show aw none _ 171 _ (94, [some (.ref 65), some (.int b), some (.int f), some (.int t), some (.int n), some (.int p), some (.long wh), none, some (.int i0), none], [(.long y30)]) w27
        have y30i := n64_of (x := y30) y30a
        have y30p : 0 < n64 y30 := by rw [y30t]; exact Nat.gcd_pos_of_pos_left _ (by omega)
        refine aw_step (f1 := (96, [some (.ref 65), some (.int b), some (.int f), some (.int t), some (.int n), some (.int p), some (.long wh), none, some (.long y30), none], [])) (w1 := w27) rfl rfl ?_
        refine aw_step (f1 := (98, [some (.ref 65), some (.int b), some (.int f), some (.int t), some (.int n), some (.int p), some (.long wh), none, some (.long y30), none], [(.int p)])) (w1 := w27) rfl rfl ?_
        refine s_if 113 101 rfl rfl rfl (fun (h31 : ¬ p.toInt = 0) => ?_) (fun (h31 : ¬ (¬ p.toInt = 0)) => ?_)
        · --
          refine aw_step (f1 := (115, [some (.ref 65), some (.int b), some (.int f), some (.int t), some (.int n), some (.int p), some (.long wh), none, some (.long y30), none], [(.long wh)])) (w1 := w27) rfl rfl ?_
          --
          refine aw_step (f1 := (117, [some (.ref 65), some (.int b), some (.int f), some (.int t), some (.int n), some (.int p), some (.long wh), none, some (.long y30), none], [(.long y30), (.long wh)])) (w1 := w27) rfl rfl ?_
          refine s_dvl (f := fun x y => x / y) 118 rfl rfl (by omega) fun y32 e33 => ?_
          have e33 : y32 = wh / y30 := e33
          refine aw_ret (v := some (.long y32)) rfl rfl ?_
          have l67 : rI w 67 b.toInt.toNat = V (8 + 4 * b.toInt.toNat + 0) := R.ra (i := b.toInt.toNat) (c := 0) (by omega) (by decide)
          have lr := rowM_V R (by omega) w21p
          rw [l67] at lr
          have lv : lV V (V (8 + 4 * b.toInt.toNat + 0)) (rL w21 74) := fun c hc j => (lr c j hc).trans ⟨fun q => q.2, fun q => ⟨al c hc, q⟩⟩
          have dv := n64_div (x := wh) (y := y30) (by omega) (by omega)
          rw [← e33] at dv
          have zi := n64_of (x := y32) dv.2
          refine ⟨J28, y32, rfl, Or.inr (Or.inr ⟨⟨by omega, by omega, by omega⟩, ⟨by omega, by omega⟩, ⟨by omega, by omega⟩, rL w21 74, lv, ?_⟩)⟩
          rw [← zi.1, dv.1, y30t, Nat.gcd_comm (n64 wh), ← ey, F]
          first
            | rw [if_pos (by omega), ← ey2]
            | rw [if_neg (by omega)]
            | rw [if_neg (by omega), F]
        · --
          refine aw_step (f1 := (102, [some (.ref 65), some (.int b), some (.int f), some (.int t), some (.int n), some (.int p), some (.long wh), none, some (.long y30), none], [(.ref 65)])) (w1 := w27) rfl rfl ?_
          refine s_gr 84 J28 105 rfl rfl rfl rfl rfl rfl ?_
          refine aw_step (f1 := (106, [some (.ref 65), some (.int b), some (.int f), some (.int t), some (.int n), some (.int p), some (.long wh), none, some (.long y30), none], [(.int t), (.ref 84)])) (w1 := w27) rfl rfl ?_
          refine s_la J28 107 rfl rfl rfl (by omega) (by omega) fun y34 y34a y34b y34f => ?_
          have ey2 := (w27p t.toInt.toNat (by omega)).symm.trans (rL_of y34f)
          rw [z1, F] at ey2
          have ey2b := chT_a (l := rL w21 74) (f := f.toInt.toNat) (a := 840 ^ n.toInt.toNat) (z := (szV V).toNat) (by omega) n.toInt.toNat (d := t.toInt.toNat) (by omega)
          have ey2i := n64_toInt (x := y34) (by omega)
          refine aw_step (f1 := (109, [some (.ref 65), some (.int b), some (.int f), some (.int t), some (.int n), some (.int p), some (.long wh), none, some (.long y30), none], [(.long y30), (.long y34)])) (w1 := w27) rfl rfl ?_
          refine s_dvl (f := fun x y => x / y) 110 rfl rfl (by omega) fun y35 e36 => ?_
          have e36 : y35 = y34 / y30 := e36
          refine aw_step (f1 := (118, [some (.ref 65), some (.int b), some (.int f), some (.int t), some (.int n), some (.int p), some (.long wh), none, some (.long y30), none], [(.long y35)])) (w1 := w27) rfl rfl ?_
          refine aw_ret (v := some (.long y35)) rfl rfl ?_
          have l67 : rI w 67 b.toInt.toNat = V (8 + 4 * b.toInt.toNat + 0) := R.ra (i := b.toInt.toNat) (c := 0) (by omega) (by decide)
          have lr := rowM_V R (by omega) w21p
          rw [l67] at lr
          have lv : lV V (V (8 + 4 * b.toInt.toNat + 0)) (rL w21 74) := fun c hc j => (lr c j hc).trans ⟨fun q => q.2, fun q => ⟨al c hc, q⟩⟩
          have dv := n64_div (x := y34) (y := y30) (by omega) (by omega)
          rw [← e36] at dv
          have zi := n64_of (x := y35) dv.2
          refine ⟨J28, y35, rfl, Or.inr (Or.inr ⟨⟨by omega, by omega, by omega⟩, ⟨by omega, by omega⟩, ⟨by omega, by omega⟩, rL w21 74, lv, ?_⟩)⟩
          rw [← zi.1, dv.1, y30t, Nat.gcd_comm (n64 wh), ← ey, F]
          first
            | rw [if_pos (by omega), ← ey2]
            | rw [if_neg (by omega)]
            | rw [if_neg (by omega), F]
      · --
        refine s_l (pc1 := 41) (ls1 := [some (.ref 65), some (.int b), some (.int f), some (.int t), some (.int n), some (.int p), none, none, none, none]) (st1 := []) rfl rfl fun y37 e38 => ?_
        have e38t : y37.toInt = -1000000000000000002 := by rw [e38]; rfl
        refine aw_ret (v := some (.long y37)) rfl rfl ?_
        first
          | exact ⟨J, y37, rfl, Or.inl ⟨by omega, by have := hl0 f; have := hl0 t; omega⟩⟩
          | exact ⟨J, y37, rfl, Or.inr (Or.inl ⟨by omega, by omega, by omega⟩)⟩
  · --
    refine s_l (pc1 := 13) (ls1 := [some (.ref 65), some (.int b), some (.int f), some (.int t), some (.int n), some (.int p), none, none, none, none]) (st1 := []) rfl rfl fun y39 e40 => ?_
    have e40t : y39.toInt = -1000000000000000001 := by rw [e40]; rfl
    refine aw_ret (v := some (.long y39)) rfl rfl ?_
    first
      | exact ⟨J, y39, rfl, Or.inl ⟨by omega, by have := hl0 f; have := hl0 t; omega⟩⟩
      | exact ⟨J, y39, rfl, Or.inr (Or.inl ⟨by omega, by omega, by omega⟩)⟩
theorem f_af52 {d : Nat} {w : am_W} {Q : Option Value → am_W → Prop} (b f n : Int32) (J : ab_J ab_TT ab_sets ab_WR w w) (hW : ∀ c : Nat, (c : Int) < szM w → rL w 84 c < 9223372036854775808) (hx : ∀ st : Int64, (∀ j : Nat, bt (n64 st) j = 1 ↔ (j : Int) < szM w ∧ 0 < rL w 84 j) → Q (some (.long st)) w) : ∀ (m : Nat) (st : Int64) (i : Int32), (36 - i.toInt).toNat < m → 0 ≤ i.toInt → i.toInt ≤ szM w → (∀ j : Nat, bt (n64 st) j = 1 ↔ (j : Int) < i.toInt ∧ 0 < rL w 84 j) → aw none (d + 1) 167 Q (52, [some (.ref 65), some (.int b), some (.int f), some (.int n), some (.long st), none, some (.int i)], []) w := by
  have szm := szM_in J.1
  intro m
  induction m with
  | zero => intro st i p; omega
  | succ m ih =>
    intro st i p1 p2 p3 F
    refine aw_step (f1 := (54, [some (.ref 65), some (.int b), some (.int f), some (.int n), some (.long st), none, some (.int i)], [(.int i)])) (w1 := w) rfl rfl ?_
    refine aw_step (f1 := (55, [some (.ref 65), some (.int b), some (.int f), some (.int n), some (.long st), none, some (.int i)], [(.ref 65), (.int i)])) (w1 := w) rfl rfl ?_
    refine s_cv (z := 113) (p := 65) (as := []) (st1 := [(.int i)]) J 58 rfl rfl rfl rfl rfl rfl rfl rfl (Nat.le_of_ble_eq_true rfl) (Nat.le_of_ble_eq_true rfl) (q_cells J.1) ?_
    rintro _ _ ⟨rfl, x1, rfl, x1t⟩
    refine ⟨rfl, ?_⟩
    show aw none _ 167 _ (58, [some (.ref 65), some (.int b), some (.int f), some (.int n), some (.long st), none, some (.int i)], [(.int x1), (.int i)]) w
    have x1s := szM_in J.1
    refine s_ic 92 61 rfl rfl rfl (fun (h2 : x1.toInt ≤ i.toInt) => ?_) (fun (h2 : ¬ (x1.toInt ≤ i.toInt)) => ?_)
    · --
      refine aw_step (f1 := (94, [some (.ref 65), some (.int b), some (.int f), some (.int n), some (.long st), none, some (.int i)], [(.long st)])) (w1 := w) rfl rfl ?_
      refine aw_ret (v := some (.long st)) rfl rfl ?_
      exact hx st (fun j => by have e : i.toInt = szM w := (by omega); rw [← e]; exact F j)
    · --
      refine aw_step (f1 := (63, [some (.ref 65), some (.int b), some (.int f), some (.int n), some (.long st), none, some (.int i)], [(.long st)])) (w1 := w) rfl rfl ?_
      refine aw_step (f1 := (64, [some (.ref 65), some (.int b), some (.int f), some (.int n), some (.long st), none, some (.int i)], [(.ref 65), (.long st)])) (w1 := w) rfl rfl ?_
      refine s_gr 84 J 67 rfl rfl rfl rfl rfl rfl ?_
      refine aw_step (f1 := (69, [some (.ref 65), some (.int b), some (.int f), some (.int n), some (.long st), none, some (.int i)], [(.int i), (.ref 84), (.long st)])) (w1 := w) rfl rfl ?_
      refine s_la J 70 rfl rfl rfl (by omega) (by omega) fun y3 y3a y3b y3f => ?_
      have hr : rL w 84 i.toInt.toNat = n64 y3 := rL_of y3f
      have hrl := hW i.toInt.toNat (by omega)
      rw [hr] at hrl
      have hri := n64_toInt (x := y3) (by omega)
      refine s_l (pc1 := 71) (ls1 := [some (.ref 65), some (.int b), some (.int f), some (.int n), some (.long st), none, some (.int i)]) (st1 := [(.long y3), (.long st)]) rfl rfl fun y4 e5 => ?_
      have e5t : y4.toInt = 0 := by rw [e5]; rfl
      refine s_lc 82 75 72 rfl rfl rfl rfl rfl (fun (h6 : y3.toInt ≤ y4.toInt) => ?_) (fun (h6 : ¬ (y3.toInt ≤ y4.toInt)) => ?_)
      · --
        --
        refine s_l (pc1 := 83) (ls1 := [some (.ref 65), some (.int b), some (.int f), some (.int n), some (.long st), none, some (.int i)]) (st1 := [(.long st)]) rfl rfl fun y7 e8 => ?_
        have e8t : y7.toInt = 0 := by rw [e8]; rfl
        --
        refine s_l (pc1 := 84) (ls1 := [some (.ref 65), some (.int b), some (.int f), some (.int n), some (.long st), none, some (.int i)]) (st1 := []) rfl rfl fun y9 e10 => ?_
        have e10 : y9 = st ||| y7 := e10
        refine aw_step (f1 := (86, [some (.ref 65), some (.int b), some (.int f), some (.int n), some (.long y9), none, some (.int i)], [])) (w1 := w) rfl rfl ?_
        refine aw_step (f1 := (89, [some (.ref 65), some (.int b), some (.int f), some (.int n), some (.long y9), none, some (.int (i + Int32.ofInt 1))], [])) (w1 := w) rfl rfl ?_
        obtain ⟨x11, x11e⟩ : ∃ z, z = (i + Int32.ofInt 1) := ⟨_, rfl⟩
        have x11t : x11.toInt = i.toInt + (1) := by rw [x11e]; exact n_add (y := Int32.ofInt (1)) (by show _ ≤ _ + (1 : Int); omega) (by show _ + (1 : Int) ≤ _; omega)
        rw [← x11e]
        refine aw_step (f1 := (52, [some (.ref 65), some (.int b), some (.int f), some (.int n), some (.long y9), none, some (.int x11)], [])) (w1 := w) rfl rfl ?_
        refine ih y9 x11 (by omega) (by omega) (by omega) (fun j => ?_)
        have fj := F j
        have l1 := bt_le (n64 st) j
        rw [e10, n64_or, bt_or, n64_z.mp e8t, bt_z]
        constructor
        · intro u
          have := fj.mp (by omega)
          exact ⟨by omega, this.2⟩
        · rintro ⟨u1, u2⟩
          have q : j ≠ i.toInt.toNat := fun q => by rw [q, hr] at u2; omega
          have := fj.mpr ⟨by omega, u2⟩
          omega
      · --
        refine s_l (pc1 := 76) (ls1 := [some (.ref 65), some (.int b), some (.int f), some (.int n), some (.long st), none, some (.int i)]) (st1 := [(.long st)]) rfl rfl fun y12 e13 => ?_
        have e13t : y12.toInt = 1 := by rw [e13]; rfl
        --
        refine aw_step (f1 := (78, [some (.ref 65), some (.int b), some (.int f), some (.int n), some (.long st), none, some (.int i)], [(.int i), (.long y12), (.long st)])) (w1 := w) rfl rfl ?_
        refine s_l (pc1 := 79) (ls1 := [some (.ref 65), some (.int b), some (.int f), some (.int n), some (.long st), none, some (.int i)]) (st1 := [(.long st)]) rfl rfl fun y14 e15 => ?_
        have e15 : y14 = y12 <<< (i.toInt64 &&& 63) := e15
        --
        refine aw_step (f1 := (83, [some (.ref 65), some (.int b), some (.int f), some (.int n), some (.long st), none, some (.int i)], [(.long y14), (.long st)])) (w1 := w) rfl rfl ?_
        --
        refine s_l (pc1 := 84) (ls1 := [some (.ref 65), some (.int b), some (.int f), some (.int n), some (.long st), none, some (.int i)]) (st1 := []) rfl rfl fun y16 e17 => ?_
        have e17 : y16 = st ||| y14 := e17
        refine aw_step (f1 := (86, [some (.ref 65), some (.int b), some (.int f), some (.int n), some (.long y16), none, some (.int i)], [])) (w1 := w) rfl rfl ?_
        refine aw_step (f1 := (89, [some (.ref 65), some (.int b), some (.int f), some (.int n), some (.long y16), none, some (.int (i + Int32.ofInt 1))], [])) (w1 := w) rfl rfl ?_
        obtain ⟨x18, x18e⟩ : ∃ z, z = (i + Int32.ofInt 1) := ⟨_, rfl⟩
        have x18t : x18.toInt = i.toInt + (1) := by rw [x18e]; exact n_add (y := Int32.ofInt (1)) (by show _ ≤ _ + (1 : Int); omega) (by show _ + (1 : Int) ≤ _; omega)
        rw [← x18e]
        refine aw_step (f1 := (52, [some (.ref 65), some (.int b), some (.int f), some (.int n), some (.long y16), none, some (.int x18)], [])) (w1 := w) rfl rfl ?_
        refine ih y16 x18 (by omega) (by omega) (by omega) (fun j => ?_)
        have fj := F j
        have l1 := bt_le (n64 st) j
        have sb : n64 y14 = 2 ^ i.toInt.toNat := by rw [e15]; exact n64_shl (by omega) (by omega) e13t
        rw [e17, n64_or, bt_or, sb, bt_pow]
        by_cases q : i.toInt.toNat = j
        · rw [if_pos q]; exact ⟨fun _ => ⟨by omega, by rw [← q, hr]; omega⟩, fun _ => by omega⟩
        · rw [if_neg q]
          constructor
          · intro u
            have := fj.mp (by omega)
            exact ⟨by omega, this.2⟩
          · intro u
            have := fj.mpr ⟨by omega, u.2⟩
            omega
theorem f_after {d : Nat} {w : am_W} {V : Nat → Int} (R : RMs w V) (al : alV V) (b f n : Int32) (I : ab_inv ab_TT ab_sets w) : aw none (d + 6) 167 (fun r w1 => ab_J ab_TT ab_sets ab_WR w w1 ∧ ∃ z : Int64, r = some (.long z) ∧ aftP V b.toInt f.toInt n.toInt z.toInt) (0, am_entry 167 [.ref 65, .int b, .int f, .int n], []) w := by
  have J : ab_J ab_TT ab_sets ab_WR w w := ⟨I, ab_fr.rf⟩
  have szm := szM_in I
  have hsz := R.sz
  have hl0 : ∀ c : Int32, 0 ≤ c.toInt → c.toInt < szV V → rI w 66 c.toInt.toNat ≠ 126 := fun c a b => by rw [R.rc (by omega)]; exact al _ (by omega)
  show aw none (d + 6) 167 _ (0, [some (.ref 65), some (.int b), some (.int f), some (.int n), none, none, none], []) w
  refine aw_step (f1 := (1, [some (.ref 65), some (.int b), some (.int f), some (.int n), none, none, none], [(.int b)])) (w1 := w) rfl rfl ?_
  refine s_cs (z := 116) (as := [(.int b)]) (st1 := []) 4 rfl rfl rfl rfl rfl rfl (Nat.le_of_ble_eq_true rfl) (Nat.le_of_ble_eq_true rfl) (Nat.le_of_ble_eq_true rfl) (q_areBoots b) ?_
  rintro _ _ ⟨rfl, x1, rfl, x1t⟩
  refine ⟨rfl, ?_⟩
  show aw none _ 167 _ (4, [some (.ref 65), some (.int b), some (.int f), some (.int n), none, none, none], [(.int x1)]) w
  refine s_if 15 7 rfl rfl rfl (fun (h2 : x1.toInt = 0) => ?_) (fun (h2 : ¬ (x1.toInt = 0)) => ?_)
  · --
    refine s_l (pc1 := 18) (ls1 := [some (.ref 65), some (.int b), some (.int f), some (.int n), none, none, none]) (st1 := []) rfl rfl fun y3 e4 => ?_
    have e4t : y3.toInt = -1000000000000000001 := by rw [e4]; rfl
    refine aw_ret (v := some (.long y3)) rfl rfl ?_
    first
      | exact ⟨J, y3, rfl, Or.inl ⟨by omega, by have := hl0 f; omega⟩⟩
      | exact ⟨J, y3, rfl, Or.inr (Or.inl ⟨by omega, by omega, by omega⟩)⟩
  · --
    refine aw_step (f1 := (8, [some (.ref 65), some (.int b), some (.int f), some (.int n), none, none, none], [(.ref 65)])) (w1 := w) rfl rfl ?_
    refine aw_step (f1 := (9, [some (.ref 65), some (.int b), some (.int f), some (.int n), none, none, none], [(.int f), (.ref 65)])) (w1 := w) rfl rfl ?_
    refine s_cv (z := 115) (p := 65) (as := [(.int f)]) (st1 := []) J 12 rfl rfl rfl rfl rfl rfl rfl rfl (Nat.le_of_ble_eq_true rfl) (Nat.le_of_ble_eq_true rfl) (q_isLand f J.1) ?_
    rintro _ _ ⟨rfl, x5, rfl, x5t⟩
    refine ⟨rfl, ?_⟩
    show aw none _ 167 _ (12, [some (.ref 65), some (.int b), some (.int f), some (.int n), none, none, none], [(.int x5)]) w
    have x5s := szM_in J.1
    refine s_if 19 15 rfl rfl rfl (fun (h6 : ¬ x5.toInt = 0) => ?_) (fun (h6 : ¬ (¬ x5.toInt = 0)) => ?_)
    · --
      refine aw_step (f1 := (20, [some (.ref 65), some (.int b), some (.int f), some (.int n), none, none, none], [(.int n)])) (w1 := w) rfl rfl ?_
      refine s_l (pc1 := 21) (ls1 := [some (.ref 65), some (.int b), some (.int f), some (.int n), none, none, none]) (st1 := []) rfl rfl fun y7 e8 => ?_
      have e8t : y7.toInt = n.toInt := by rw [e8]; exact Int32.toInt_toInt64 n
      refine s_l (pc1 := 22) (ls1 := [some (.ref 65), some (.int b), some (.int f), some (.int n), none, none, none]) (st1 := [(.long y7)]) rfl rfl fun y9 e10 => ?_
      have e10t : y9.toInt = 0 := by rw [e10]; rfl
      refine s_l (pc1 := 25) (ls1 := [some (.ref 65), some (.int b), some (.int f), some (.int n), none, none, none]) (st1 := [(.long y9), (.long y7)]) rfl rfl fun y11 e12 => ?_
      have e12t : y11.toInt = 12 := by rw [e12]; rfl
      refine s_cs (z := 108) (as := [(.long y7), (.long y9), (.long y11)]) (st1 := []) 28 rfl rfl rfl rfl rfl rfl (Nat.le_of_ble_eq_true rfl) (Nat.le_of_ble_eq_true rfl) (Nat.le_of_ble_eq_true rfl) (q_in2 y7 y9 y11) ?_
      rintro _ _ ⟨rfl, x13, rfl, x13t⟩
      refine ⟨rfl, ?_⟩
      show aw none _ 167 _ (28, [some (.ref 65), some (.int b), some (.int f), some (.int n), none, none, none], [(.int x13)]) w
      refine s_if 35 31 rfl rfl rfl (fun (h14 : ¬ x13.toInt = 0) => ?_) (fun (h14 : ¬ (¬ x13.toInt = 0)) => ?_)
      · --
        refine aw_step (f1 := (36, [some (.ref 65), some (.int b), some (.int f), some (.int n), none, none, none], [(.ref 65)])) (w1 := w) rfl rfl ?_
        refine aw_step (f1 := (37, [some (.ref 65), some (.int b), some (.int f), some (.int n), none, none, none], [(.int b), (.ref 65)])) (w1 := w) rfl rfl ?_
        refine s_cv (z := 133) (p := 65) (as := [(.int b)]) (st1 := []) J 40 rfl rfl rfl rfl rfl rfl rfl rfl (Nat.le_of_ble_eq_true rfl) (Nat.le_of_ble_eq_true rfl) (q_putOn b ⟨by omega, by omega⟩ J.1) ?_
        rintro _ w15 ⟨rfl, J16c, w15o, w15p⟩
        have J16 := J.trans J16c
        refine ⟨am_len2 J J16c, ?_⟩
        show aw none _ 167 _ (40, [some (.ref 65), some (.int b), some (.int f), some (.int n), none, none, none], []) w15
        have z1 : szM w15 = szV V := by rw [← hsz]; exact w15o.sz (by decide)
        refine aw_step (f1 := (41, [some (.ref 65), some (.int b), some (.int f), some (.int n), none, none, none], [(.ref 65)])) (w1 := w15) rfl rfl ?_
        refine aw_step (f1 := (42, [some (.ref 65), some (.int b), some (.int f), some (.int n), none, none, none], [(.int f), (.ref 65)])) (w1 := w15) rfl rfl ?_
        refine aw_step (f1 := (43, [some (.ref 65), some (.int b), some (.int f), some (.int n), none, none, none], [(.int n), (.int f), (.ref 65)])) (w1 := w15) rfl rfl ?_
        refine s_cv (z := 166) (p := 65) (as := [(.int f), (.int n)]) (st1 := []) J16 46 rfl rfl rfl rfl rfl rfl rfl rfl (Nat.le_of_ble_eq_true rfl) (Nat.le_of_ble_eq_true rfl) (f_findWays f n ⟨by omega, by omega⟩ ⟨by omega, by omega⟩ J16.1) ?_
        rintro _ w17 ⟨rfl, J18c, w17o, w17p⟩
        have J18 := J16.trans J18c
        refine ⟨am_len2 J16 J18c, ?_⟩
        show aw none _ 167 _ (46, [some (.ref 65), some (.int b), some (.int f), some (.int n), none, none, none], []) w17
        refine s_l (pc1 := 47) (ls1 := [some (.ref 65), some (.int b), some (.int f), some (.int n), none, none, none]) (st1 := []) rfl rfl fun y19 e20 => ?_
        have e20t : y19.toInt = 0 := by rw [e20]; rfl
        refine aw_step (f1 := (49, [some (.ref 65), some (.int b), some (.int f), some (.int n), some (.long y19), none, none], [])) (w1 := w17) rfl rfl ?_
        refine s_i (pc1 := 50) (ls1 := [some (.ref 65), some (.int b), some (.int f), some (.int n), some (.long y19), none, none]) (st1 := []) rfl rfl fun x21 e22 => ?_
        have e22t : x21.toInt = 0 := by rw [e22]; rfl
        refine aw_step (f1 := (52, [some (.ref 65), some (.int b), some (.int f), some (.int n), some (.long y19), none, some (.int x21)], [])) (w1 := w17) rfl rfl ?_
        have l67 : rI w 67 b.toInt.toNat = V (8 + 4 * b.toInt.toNat + 0) := R.ra (i := b.toInt.toNat) (c := 0) (by omega) (by decide)
        have lr := rowM_V R (by omega) w15p
        rw [l67] at lr
        have lv : lV V (V (8 + 4 * b.toInt.toNat + 0)) (rL w15 74) := fun c hc j => (lr c j hc).trans ⟨fun q => q.2, fun q => ⟨al c hc, q⟩⟩
        have z2 : szM w17 = szV V := by rw [← z1]; exact w17o.sz (by decide)
        have wb : ∀ c : Nat, (c : Int) < szM w17 → rL w17 84 c = wyT (rL w15 74) (szV V).toNat f.toInt.toNat n.toInt.toNat c := fun c hc => by rw [w17p c (by omega), z1]
        refine f_af52 b f n ⟨J18.1, ab_fr.rf⟩ (fun c hc => by rw [wb c hc]; exact wyT_63 (by omega) (by omega) c) (fun st F => ?_) 37 y19 x21 (by omega) (by omega) (by omega) (fun j => ⟨fun q => by rw [n64_z.mp e20t, bt_z] at q; omega, fun q => by omega⟩)
        have s36 : n64 st < 2 ^ 36 := bt_lt fun j hj => by have := ((F j).mp hj).1; omega
        refine ⟨J18, st, rfl, Or.inr (Or.inr ⟨⟨by omega, by omega⟩, ⟨by omega, by omega⟩, n64 st, n64_toInt (by omega), fun j => (F j).trans ?_⟩)⟩
        rw [z2]
        exact ⟨fun q => ⟨q.1, (wyT_rn lv n.toInt.toNat j).mp (by rw [← wb j (by omega)]; exact q.2)⟩, fun q => ⟨q.1, by rw [wb j (by omega)]; exact (wyT_rn lv n.toInt.toNat j).mpr q.2⟩⟩
      · --
        refine s_l (pc1 := 34) (ls1 := [some (.ref 65), some (.int b), some (.int f), some (.int n), none, none, none]) (st1 := []) rfl rfl fun y23 e24 => ?_
        have e24t : y23.toInt = -1000000000000000002 := by rw [e24]; rfl
        refine aw_ret (v := some (.long y23)) rfl rfl ?_
        first
          | exact ⟨J, y23, rfl, Or.inl ⟨by omega, by have := hl0 f; omega⟩⟩
          | exact ⟨J, y23, rfl, Or.inr (Or.inl ⟨by omega, by omega, by omega⟩)⟩
    · --
      refine s_l (pc1 := 18) (ls1 := [some (.ref 65), some (.int b), some (.int f), some (.int n), none, none, none]) (st1 := []) rfl rfl fun y25 e26 => ?_
      have e26t : y25.toInt = -1000000000000000001 := by rw [e26]; rfl
      refine aw_ret (v := some (.long y25)) rfl rfl ?_
      first
        | exact ⟨J, y25, rfl, Or.inl ⟨by omega, by have := hl0 f; omega⟩⟩
        | exact ⟨J, y25, rfl, Or.inr (Or.inl ⟨by omega, by omega, by omega⟩)⟩
