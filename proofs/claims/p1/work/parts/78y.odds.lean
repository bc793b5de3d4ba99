/-! ===== the public three of the model, where all cells are land ===== -/
theorem f_cmL {d g : Nat} {w : am_W} (a b : Int64) : ∀ (m : Nat) (x y : Int64) (o8 o9 : Option Value), n64 y < m → 0 ≤ x.toInt → 0 ≤ y.toInt → Nat.gcd (n64 x) (n64 y) = g → aw none d 169 (fun r w1 => w = w1 ∧ ∃ z : Int64, r = some (.long z) ∧ 0 ≤ z.toInt ∧ n64 z = g) (6, [some (.long a), none, some (.long b), none, some (.long x), none, some (.long y), none, o8, o9], []) w := by
  intro m
  induction m with
  | zero => intro x y o8 o9 p; omega
  | succ m ih =>
    intro x y o8 o9 p1 p4 p5 hg
    refine aw_step (f1 := (8, [some (.long a), none, some (.long b), none, some (.long x), none, some (.long y), none, o8, o9], [(.long y)])) (w1 := w) rfl rfl ?_
    refine s_l (pc1 := 9) (ls1 := [some (.long a), none, some (.long b), none, some (.long x), none, some (.long y), none, o8, o9]) (st1 := [(.long y)]) rfl rfl fun y1 e2 => ?_
    have e2t : y1.toInt = 0 := by rw [e2]; rfl
    refine s_lc 31 13 10 rfl rfl rfl rfl rfl (fun (h3 : y.toInt = y1.toInt) => ?_) (fun (h3 : ¬ (y.toInt = y1.toInt)) => ?_)
    · --
      refine aw_step (f1 := (33, [some (.long a), none, some (.long b), none, some (.long x), none, some (.long y), none, o8, o9], [(.long x)])) (w1 := w) rfl rfl ?_
      refine aw_ret (v := some (.long x)) rfl rfl ?_
      refine ⟨rfl, x, rfl, by omega, ?_⟩
      rw [← hg, n64_z.mp (show y.toInt = 0 by omega), Nat.gcd_zero_right]
    · --
      refine aw_step (f1 := (15, [some (.long a), none, some (.long b), none, some (.long x), none, some (.long y), none, o8, o9], [(.long x)])) (w1 := w) rfl rfl ?_
      refine aw_step (f1 := (17, [some (.long a), none, some (.long b), none, some (.long x), none, some (.long y), none, o8, o9], [(.long y), (.long x)])) (w1 := w) rfl rfl ?_
      refine s_dvl (f := fun x y => x - x / y * y) 18 rfl rfl (by omega) fun y4 e5 => ?_
      have e5 : y4 = x - x / y * y := e5
      refine aw_step (f1 := (20, [some (.long a), none, some (.long b), none, some (.long x), none, some (.long y), none, some (.long y4), none], [])) (w1 := w) rfl rfl ?_
      refine aw_step (f1 := (22, [some (.long a), none, some (.long b), none, some (.long x), none, some (.long y), none, some (.long y4), none], [(.long y)])) (w1 := w) rfl rfl ?_
      refine aw_step (f1 := (24, [some (.long a), none, some (.long b), none, some (.long y), none, some (.long y), none, some (.long y4), none], [])) (w1 := w) rfl rfl ?_
      refine aw_step (f1 := (26, [some (.long a), none, some (.long b), none, some (.long y), none, some (.long y), none, some (.long y4), none], [(.long y4)])) (w1 := w) rfl rfl ?_
      refine aw_step (f1 := (28, [some (.long a), none, some (.long b), none, some (.long y), none, some (.long y4), none, some (.long y4), none], [])) (w1 := w) rfl rfl ?_
      refine aw_step (f1 := (6, [some (.long a), none, some (.long b), none, some (.long y), none, some (.long y4), none, some (.long y4), none], [])) (w1 := w) rfl rfl ?_
      have yp : 0 < y.toInt := by omega
      obtain ⟨rm1, rm2⟩ := n64_rem (x := x) (y := y) (by omega) yp
      rw [← e5] at rm1 rm2
      have yn := (n64_of (x := y) (by omega)).1
      have lt : n64 x % n64 y < n64 y := Nat.mod_lt _ (by omega)
      exact ih y y4 _ _ (by omega) (by omega) (by omega) (by rw [rm1, ← hg, Nat.gcd_comm (n64 x) (n64 y), Nat.gcd_rec (n64 y) (n64 x), Nat.gcd_comm])
theorem f_cm {d : Nat} {w : am_W} (a b : Int64) (ha : 0 ≤ a.toInt) (hb : 0 ≤ b.toInt) : aw none d 169 (fun r w1 => w = w1 ∧ ∃ z : Int64, r = some (.long z) ∧ 0 ≤ z.toInt ∧ n64 z = Nat.gcd (n64 a) (n64 b)) (0, am_entry 169 [.long a, .long b], []) w := by
  show aw none d 169 _ (0, [some (.long a), none, some (.long b), none, none, none, none, none, none, none], []) w
  refine aw_step (f1 := (1, [some (.long a), none, some (.long b), none, none, none, none, none, none, none], [(.long a)])) (w1 := w) rfl rfl ?_
  refine aw_step (f1 := (3, [some (.long a), none, some (.long b), none, some (.long a), none, none, none, none, none], [])) (w1 := w) rfl rfl ?_
  refine aw_step (f1 := (4, [some (.long a), none, some (.long b), none, some (.long a), none, none, none, none, none], [(.long b)])) (w1 := w) rfl rfl ?_
  refine aw_step (f1 := (6, [some (.long a), none, some (.long b), none, some (.long a), none, some (.long b), none, none, none], [])) (w1 := w) rfl rfl ?_
  exact f_cmL a b (n64 b + 1) a b none none (by omega) ha hb rfl
theorem f_ways {d : Nat} {w : am_W} {V : Nat → Int} (R : RMs w V) (al : alV V) (b f t n : Int32) (I : ab_inv ab_TT ab_sets w) : aw none (d + 6) 168 (fun r w1 => ab_J ab_TT ab_sets ab_WR w w1 ∧ ∃ z : Int64, r = some (.long z) ∧ wayP V b.toInt f.toInt t.toInt n.toInt z.toInt) (0, am_entry 168 [.ref 65, .int b, .int f, .int t, .int n], []) w := by
  have J : ab_J ab_TT ab_sets ab_WR w w := ⟨I, ab_fr.rf⟩
  have szm := szM_in I
  have hsz := R.sz
  have hl0 : ∀ c : Int32, 0 ≤ c.toInt → c.toInt < szV V → rI w 66 c.toInt.toNat ≠ 126 := fun c a b => by rw [R.rc (by omega)]; exact al _ (by omega)
  show aw none (d + 6) 168 _ (0, [some (.ref 65), some (.int b), some (.int f), some (.int t), some (.int n)], []) w
  refine aw_step (f1 := (1, [some (.ref 65), some (.int b), some (.int f), some (.int t), some (.int n)], [(.ref 65)])) (w1 := w) rfl rfl ?_
  refine aw_step (f1 := (2, [some (.ref 65), some (.int b), some (.int f), some (.int t), some (.int n)], [(.int b), (.ref 65)])) (w1 := w) rfl rfl ?_
  refine aw_step (f1 := (3, [some (.ref 65), some (.int b), some (.int f), some (.int t), some (.int n)], [(.int f), (.int b), (.ref 65)])) (w1 := w) rfl rfl ?_
  refine aw_step (f1 := (4, [some (.ref 65), some (.int b), some (.int f), some (.int t), some (.int n)], [(.int t), (.int f), (.int b), (.ref 65)])) (w1 := w) rfl rfl ?_
  refine s_cv (z := 143) (p := 65) (as := [(.int b), (.int f), (.int t)]) (st1 := []) J 7 rfl rfl rfl rfl rfl rfl rfl rfl (Nat.le_of_ble_eq_true rfl) (Nat.le_of_ble_eq_true rfl) (q_isAsked b f t J.1) ?_
  rintro _ _ ⟨rfl, x1, rfl, x1t⟩
  refine ⟨rfl, ?_⟩
  show aw none _ 168 _ (7, [some (.ref 65), some (.int b), some (.int f), some (.int t), some (.int n)], [(.int x1)]) w
  have x1s := szM_in J.1
  refine s_if 14 10 rfl rfl rfl (fun (h2 : ¬ x1.toInt = 0) => ?_) (fun (h2 : ¬ (¬ x1.toInt = 0)) => ?_)
  · --
    refine aw_step (f1 := (16, [some (.ref 65), some (.int b), some (.int f), some (.int t), some (.int n)], [(.int n)])) (w1 := w) rfl rfl ?_
    refine s_l (pc1 := 17) (ls1 := [some (.ref 65), some (.int b), some (.int f), some (.int t), some (.int n)]) (st1 := []) rfl rfl fun y3 e4 => ?_
    have e4t : y3.toInt = n.toInt := by rw [e4]; exact Int32.toInt_toInt64 n
    refine s_l (pc1 := 18) (ls1 := [some (.ref 65), some (.int b), some (.int f), some (.int t), some (.int n)]) (st1 := [(.long y3)]) rfl rfl fun y5 e6 => ?_
    have e6t : y5.toInt = 0 := by rw [e6]; rfl
    refine s_l (pc1 := 21) (ls1 := [some (.ref 65), some (.int b), some (.int f), some (.int t), some (.int n)]) (st1 := [(.long y5), (.long y3)]) rfl rfl fun y7 e8 => ?_
    have e8t : y7.toInt = 12 := by rw [e8]; rfl
    refine s_cs (z := 108) (as := [(.long y3), (.long y5), (.long y7)]) (st1 := []) 24 rfl rfl rfl rfl rfl rfl (Nat.le_of_ble_eq_true rfl) (Nat.le_of_ble_eq_true rfl) (Nat.le_of_ble_eq_true rfl) (q_in2 y3 y5 y7) ?_
    rintro _ _ ⟨rfl, x9, rfl, x9t⟩
    refine ⟨rfl, ?_⟩
    show aw none _ 168 _ (24, [some (.ref 65), some (.int b), some (.int f), some (.int t), some (.int n)], [(.int x9)]) w
    refine s_if 31 27 rfl rfl rfl (fun (h10 : ¬ x9.toInt = 0) => ?_) (fun (h10 : ¬ (¬ x9.toInt = 0)) => ?_)
    · --
      refine aw_step (f1 := (32, [some (.ref 65), some (.int b), some (.int f), some (.int t), some (.int n)], [(.ref 65)])) (w1 := w) rfl rfl ?_
      refine aw_step (f1 := (33, [some (.ref 65), some (.int b), some (.int f), some (.int t), some (.int n)], [(.int b), (.ref 65)])) (w1 := w) rfl rfl ?_
      refine s_cv (z := 133) (p := 65) (as := [(.int b)]) (st1 := []) J 36 rfl rfl rfl rfl rfl rfl rfl rfl (Nat.le_of_ble_eq_true rfl) (Nat.le_of_ble_eq_true rfl) (q_putOn b ⟨by omega, by omega⟩ J.1) ?_
      rintro _ w11 ⟨rfl, J12c, w11o, w11p⟩
      have J12 := J.trans J12c
      refine ⟨am_len2 J J12c, ?_⟩
      show aw none _ 168 _ (36, [some (.ref 65), some (.int b), some (.int f), some (.int t), some (.int n)], []) w11
      have z1 : szM w11 = szV V := by rw [← hsz]; exact w11o.sz (by decide)
      refine aw_step (f1 := (37, [some (.ref 65), some (.int b), some (.int f), some (.int t), some (.int n)], [(.ref 65)])) (w1 := w11) rfl rfl ?_
      refine aw_step (f1 := (38, [some (.ref 65), some (.int b), some (.int f), some (.int t), some (.int n)], [(.int f), (.ref 65)])) (w1 := w11) rfl rfl ?_
      refine aw_step (f1 := (40, [some (.ref 65), some (.int b), some (.int f), some (.int t), some (.int n)], [(.int n), (.int f), (.ref 65)])) (w1 := w11) rfl rfl ?_
      refine s_cv (z := 166) (p := 65) (as := [(.int f), (.int n)]) (st1 := []) J12 43 rfl rfl rfl rfl rfl rfl rfl rfl (Nat.le_of_ble_eq_true rfl) (Nat.le_of_ble_eq_true rfl) (f_findWays f n ⟨by omega, by omega⟩ ⟨by omega, by omega⟩ J12.1) ?_
      rintro _ w13 ⟨rfl, J14c, w13o, w13p⟩
      have J14 := J12.trans J14c
      refine ⟨am_len2 J12 J14c, ?_⟩
      show aw none _ 168 _ (43, [some (.ref 65), some (.int b), some (.int f), some (.int t), some (.int n)], []) w13
      refine aw_step (f1 := (44, [some (.ref 65), some (.int b), some (.int f), some (.int t), some (.int n)], [(.ref 65)])) (w1 := w13) rfl rfl ?_
      refine s_gr 84 J14 47 rfl rfl rfl rfl rfl rfl ?_
      refine aw_step (f1 := (48, [some (.ref 65), some (.int b), some (.int f), some (.int t), some (.int n)], [(.int t), (.ref 84)])) (w1 := w13) rfl rfl ?_
      refine s_la J14 49 rfl rfl rfl (by omega) (by omega) fun y15 y15a y15b y15f => ?_
      refine aw_ret (v := some (.long y15)) rfl rfl ?_
      have l67 : rI w 67 b.toInt.toNat = V (8 + 4 * b.toInt.toNat + 0) := R.ra (i := b.toInt.toNat) (c := 0) (by omega) (by decide)
      have lr := rowM_V R (by omega) w11p
      rw [l67] at lr
      have lv : lV V (V (8 + 4 * b.toInt.toNat + 0)) (rL w11 74) := fun c hc j => (lr c j hc).trans ⟨fun q => q.2, fun q => ⟨al c hc, q⟩⟩
      have fp := w13p t.toInt.toNat (by omega)
      rw [z1, rL_of y15f] at fp
      have b63 := wyT_63 (l := rL w11 74) (f := f.toInt.toNat) (z := (szV V).toNat) (by omega) (n := n.toInt.toNat) (by omega) t.toInt.toNat
      exact ⟨J14, y15, rfl, Or.inr (Or.inr ⟨⟨by omega, by omega, by omega⟩, ⟨by omega, by omega⟩, rL w11 74, lv, by rw [n64_toInt (by omega), fp]⟩)⟩
    · --
      refine s_l (pc1 := 30) (ls1 := [some (.ref 65), some (.int b), some (.int f), some (.int t), some (.int n)]) (st1 := []) rfl rfl fun y16 e17 => ?_
      have e17t : y16.toInt = -1000000000000000002 := by rw [e17]; rfl
      refine aw_ret (v := some (.long y16)) rfl rfl ?_
      first
        | exact ⟨J, y16, rfl, Or.inl ⟨by omega, by have := hl0 f; have := hl0 t; omega⟩⟩
        | exact ⟨J, y16, rfl, Or.inr (Or.inl ⟨by omega, by omega, by omega⟩)⟩
  · --
    refine s_l (pc1 := 13) (ls1 := [some (.ref 65), some (.int b), some (.int f), some (.int t), some (.int n)]) (st1 := []) rfl rfl fun y18 e19 => ?_
    have e19t : y18.toInt = -1000000000000000001 := by rw [e19]; rfl
    refine aw_ret (v := some (.long y18)) rfl rfl ?_
    first
      | exact ⟨J, y18, rfl, Or.inl ⟨by omega, by have := hl0 f; have := hl0 t; omega⟩⟩
      | exact ⟨J, y18, rfl, Or.inr (Or.inl ⟨by omega, by omega, by omega⟩)⟩
