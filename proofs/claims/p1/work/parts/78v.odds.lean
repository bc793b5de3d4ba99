/-! ===== the public three of the class ===== -/
theorem e_cdL {d g : Nat} {w : am_W} : ∀ (k : Nat) (x y : Int64) (i : Int32) (o5 : Option Value), (200 - i.toInt).toNat < k → 0 ≤ i.toInt → i.toInt ≤ 200 → 0 ≤ x.toInt → 0 ≤ y.toInt → efT (200 - i.toInt).toNat (n64 x) (n64 y) → Nat.gcd (n64 x) (n64 y) = g → aw none d 101 (fun r w1 => w = w1 ∧ ∃ z : Int64, r = some (.long z) ∧ 0 ≤ z.toInt ∧ n64 z = g) (3, [some (.long x), none, some (.long y), none, some (.int i), o5, none], []) w := by
  intro k
  induction k with
  | zero => intro x y i o5 p; omega
  | succ k ih =>
    intro x y i o5 p1 p2 p3 p4 p5 ef hg
    refine aw_step (f1 := (5, [some (.long x), none, some (.long y), none, some (.int i), o5, none], [(.int i)])) (w1 := w) rfl rfl ?_
    refine s_i (pc1 := 8) (ls1 := [some (.long x), none, some (.long y), none, some (.int i), o5, none]) (st1 := [(.int i)]) rfl rfl fun x1 e2 => ?_
    have e2t : x1.toInt = 200 := by rw [e2]; rfl
    refine s_ic 33 11 rfl rfl rfl (fun (h3 : x1.toInt ≤ i.toInt) => ?_) (fun (h3 : ¬ (x1.toInt ≤ i.toInt)) => ?_)
    · --
      refine aw_step (f1 := (34, [some (.long x), none, some (.long y), none, some (.int i), o5, none], [(.long x)])) (w1 := w) rfl rfl ?_
      refine aw_ret (v := some (.long x)) rfl rfl ?_
      have y0 : n64 y = 0 := by
        first
          | exact n64_z.mp (by omega)
          | (have ef0 := ef; rw [show (200 - i.toInt).toNat = 0 by omega] at ef0; exact ef0)
      refine ⟨rfl, x, rfl, by omega, ?_⟩
      rw [← hg, y0, Nat.gcd_zero_right]
    · --
      refine aw_step (f1 := (12, [some (.long x), none, some (.long y), none, some (.int i), o5, none], [(.long y)])) (w1 := w) rfl rfl ?_
      refine s_l (pc1 := 13) (ls1 := [some (.long x), none, some (.long y), none, some (.int i), o5, none]) (st1 := [(.long y)]) rfl rfl fun y4 e5 => ?_
      have e5t : y4.toInt = 0 := by rw [e5]; rfl
      refine s_lc 33 17 14 rfl rfl rfl rfl rfl (fun (h6 : y.toInt = y4.toInt) => ?_) (fun (h6 : ¬ (y.toInt = y4.toInt)) => ?_)
      · --
        refine aw_step (f1 := (34, [some (.long x), none, some (.long y), none, some (.int i), o5, none], [(.long x)])) (w1 := w) rfl rfl ?_
        refine aw_ret (v := some (.long x)) rfl rfl ?_
        have y0 : n64 y = 0 := by
          first
            | exact n64_z.mp (by omega)
            | (have ef0 := ef; rw [show (200 - i.toInt).toNat = 0 by omega] at ef0; exact ef0)
        refine ⟨rfl, x, rfl, by omega, ?_⟩
        rw [← hg, y0, Nat.gcd_zero_right]
      · --
        refine aw_step (f1 := (18, [some (.long x), none, some (.long y), none, some (.int i), o5, none], [(.long x)])) (w1 := w) rfl rfl ?_
        refine aw_step (f1 := (19, [some (.long x), none, some (.long y), none, some (.int i), o5, none], [(.long y), (.long x)])) (w1 := w) rfl rfl ?_
        refine s_dvl (f := fun x y => x - x / y * y) 20 rfl rfl (by omega) fun y7 e8 => ?_
        have e8 : y7 = x - x / y * y := e8
        refine aw_step (f1 := (22, [some (.long x), none, some (.long y), none, some (.int i), some (.long y7), none], [])) (w1 := w) rfl rfl ?_
        refine aw_step (f1 := (23, [some (.long x), none, some (.long y), none, some (.int i), some (.long y7), none], [(.long y)])) (w1 := w) rfl rfl ?_
        refine aw_step (f1 := (24, [some (.long y), none, some (.long y), none, some (.int i), some (.long y7), none], [])) (w1 := w) rfl rfl ?_
        refine aw_step (f1 := (26, [some (.long y), none, some (.long y), none, some (.int i), some (.long y7), none], [(.long y7)])) (w1 := w) rfl rfl ?_
        refine aw_step (f1 := (27, [some (.long y), none, some (.long y7), none, some (.int i), some (.long y7), none], [])) (w1 := w) rfl rfl ?_
        refine aw_step (f1 := (30, [some (.long y), none, some (.long y7), none, some (.int (i + Int32.ofInt 1)), some (.long y7), none], [])) (w1 := w) rfl rfl ?_
        obtain ⟨x9, x9e⟩ : ∃ z, z = (i + Int32.ofInt 1) := ⟨_, rfl⟩
        have x9t : x9.toInt = i.toInt + (1) := by rw [x9e]; exact n_add (y := Int32.ofInt (1)) (by show _ ≤ _ + (1 : Int); omega) (by show _ + (1 : Int) ≤ _; omega)
        rw [← x9e]
        refine aw_step (f1 := (3, [some (.long y), none, some (.long y7), none, some (.int x9), some (.long y7), none], [])) (w1 := w) rfl rfl ?_
        obtain ⟨rm1, rm2⟩ := n64_rem (x := x) (y := y) (by omega) (by omega)
        rw [← e8] at rm1 rm2
        obtain ⟨j, j1, j2⟩ := efT_s ef (fun q => by have := n64_z.mpr q; omega)
        exact ih y y7 x9 _ (by omega) (by omega) (by omega) (by omega) (by omega) (by rw [show (200 - x9.toInt).toNat = j by omega, rm1]; exact j2) (by rw [rm1, ← hg, Nat.gcd_comm (n64 x) (n64 y), Nat.gcd_rec (n64 y) (n64 x), Nat.gcd_comm])
theorem e_cd {d : Nat} {w : am_W} (x y : Int64) (hx : 0 ≤ x.toInt) (hy : 0 ≤ y.toInt) : aw none d 101 (fun r w1 => w = w1 ∧ ∃ z : Int64, r = some (.long z) ∧ 0 ≤ z.toInt ∧ n64 z = Nat.gcd (n64 x) (n64 y)) (0, am_entry 101 [.long x, .long y], []) w := by
  show aw none d 101 _ (0, [some (.long x), none, some (.long y), none, none, none, none], []) w
  refine s_i (pc1 := 1) (ls1 := [some (.long x), none, some (.long y), none, none, none, none]) (st1 := []) rfl rfl fun x1 e2 => ?_
  have e2t : x1.toInt = 0 := by rw [e2]; rfl
  refine aw_step (f1 := (3, [some (.long x), none, some (.long y), none, some (.int x1), none, none], [])) (w1 := w) rfl rfl ?_
  exact e_cdL 201 x y x1 none (by omega) (by omega) (by omega) hx hy (by rw [show (200 - x1.toInt).toNat = 2 * 100 by omega]; exact efT_of 100 _ _ (Nat.lt_trans (n64_lt y) (by decide))) rfl
theorem e_waL {d Z : Nat} {w00 : am_W} {l : Nat → Nat} (b f t n : Int32) (hZ : Z ≤ 36) (ht : 0 ≤ t.toInt ∧ t.toInt < (Z : Int)) (hn : 0 ≤ n.toInt ∧ n.toInt ≤ 12) : ∀ (k : Nat) (w : am_W) (i : Int32), (n.toInt - i.toInt).toNat < k → 0 ≤ i.toInt → i.toInt ≤ n.toInt → ab_J ab_TT ab_sets ab_WR w00 w → odV w (wyT l Z f.toInt.toNat i.toInt.toNat) Z → fI w 30 3 = (Z : Int) → (∀ c : Nat, c < Z → rL w 33 c = l c) → aw none (d + 3) 88 (fun r w1 => ab_J ab_TT ab_sets ab_WR w00 w1 ∧ ∃ z : Int64, r = some (.long z) ∧ z.toInt = ((wyT l Z f.toInt.toNat n.toInt.toNat t.toInt.toNat : Nat) : Int)) (73, [some (.ref 0), some (.int b), some (.int f), some (.int t), some (.int n), some (.int i)], []) w := by
  intro k
  induction k with
  | zero => intro w i p; omega
  | succ k ih =>
    intro w i p1 p2 p3 J OV hs hl
    refine aw_step (f1 := (75, [some (.ref 0), some (.int b), some (.int f), some (.int t), some (.int n), some (.int i)], [(.int i)])) (w1 := w) rfl rfl ?_
    refine aw_step (f1 := (77, [some (.ref 0), some (.int b), some (.int f), some (.int t), some (.int n), some (.int i)], [(.int n), (.int i)])) (w1 := w) rfl rfl ?_
    refine s_ic 93 80 rfl rfl rfl (fun (h1 : n.toInt ≤ i.toInt) => ?_) (fun (h1 : ¬ (n.toInt ≤ i.toInt)) => ?_)
    · --
      refine aw_step (f1 := (94, [some (.ref 0), some (.int b), some (.int f), some (.int t), some (.int n), some (.int i)], [(.ref 0)])) (w1 := w) rfl rfl ?_
      refine s_gr 30 J 97 rfl rfl rfl rfl rfl rfl ?_
      rcases OV with ⟨od, rr⟩ | ⟨od, rr⟩
      · refine s_gk (q := 31) J 100 rfl rfl rfl rfl rfl rfl od.1 ?_
        refine aw_step (f1 := (101, [some (.ref 0), some (.int b), some (.int f), some (.int t), some (.int n), some (.int i)], [(.int t), (.ref 31)])) (w1 := w) rfl rfl ?_
        refine s_la J 102 rfl rfl rfl (by omega) (by omega) fun y2 y2a y2b y2f => ?_
        refine aw_ret (v := some (.long y2)) rfl rfl ?_
        have e := (rr t.toInt.toNat (by omega)).symm.trans (rL_of y2f)
        rw [show i.toInt.toNat = n.toInt.toNat by omega] at e
        have b63 := wyT_63 (l := l) (f := f.toInt.toNat) hZ (n := n.toInt.toNat) (by omega) t.toInt.toNat
        refine ⟨J, y2, rfl, ?_⟩
        rw [n64_toInt (by omega), e]
      · refine s_gk (q := 32) J 100 rfl rfl rfl rfl rfl rfl od.1 ?_
        refine aw_step (f1 := (101, [some (.ref 0), some (.int b), some (.int f), some (.int t), some (.int n), some (.int i)], [(.int t), (.ref 32)])) (w1 := w) rfl rfl ?_
        refine s_la J 102 rfl rfl rfl (by omega) (by omega) fun y3 y3a y3b y3f => ?_
        refine aw_ret (v := some (.long y3)) rfl rfl ?_
        have e := (rr t.toInt.toNat (by omega)).symm.trans (rL_of y3f)
        rw [show i.toInt.toNat = n.toInt.toNat by omega] at e
        have b63 := wyT_63 (l := l) (f := f.toInt.toNat) hZ (n := n.toInt.toNat) (by omega) t.toInt.toNat
        refine ⟨J, y3, rfl, ?_⟩
        rw [n64_toInt (by omega), e]
    · --
      refine aw_step (f1 := (81, [some (.ref 0), some (.int b), some (.int f), some (.int t), some (.int n), some (.int i)], [(.ref 0)])) (w1 := w) rfl rfl ?_
      refine s_gr 30 J 84 rfl rfl rfl rfl rfl rfl ?_
      refine s_cv (z := 7) (p := 30) (as := []) (st1 := []) J 87 rfl rfl rfl rfl rfl rfl rfl rfl (Nat.le_of_ble_eq_true rfl) (Nat.le_of_ble_eq_true rfl) (e_stAllV OV hs hl hZ (by omega) J.1) ?_
      rintro _ w4 ⟨rfl, J5c, w4v, w4s, w4l⟩
      have J5 := J.trans J5c
      refine ⟨am_len2 J J5c, ?_⟩
      show aw none _ 88 _ (87, [some (.ref 0), some (.int b), some (.int f), some (.int t), some (.int n), some (.int i)], []) w4
      refine aw_step (f1 := (90, [some (.ref 0), some (.int b), some (.int f), some (.int t), some (.int n), some (.int (i + Int32.ofInt 1))], [])) (w1 := w4) rfl rfl ?_
      obtain ⟨x6, x6e⟩ : ∃ z, z = (i + Int32.ofInt 1) := ⟨_, rfl⟩
      have x6t : x6.toInt = i.toInt + (1) := by rw [x6e]; exact n_add (y := Int32.ofInt (1)) (by show _ ≤ _ + (1 : Int); omega) (by show _ + (1 : Int) ≤ _; omega)
      rw [← x6e]
      refine aw_step (f1 := (73, [some (.ref 0), some (.int b), some (.int f), some (.int t), some (.int n), some (.int x6)], [])) (w1 := w4) rfl rfl ?_
      exact ih w4 x6 (by omega) (by omega) (by omega) J5 (by rw [show x6.toInt.toNat = i.toInt.toNat + 1 by omega]; exact w4v) w4s w4l
theorem e_ways {d : Nat} {w : am_W} {V : Nat → Int} (R : RCs w 3 V) (oda : odA w) (b f t n : Int32) (I : ab_inv ab_TT ab_sets w) : aw none (d + 3) 88 (fun r w1 => ab_J ab_TT ab_sets ab_WR w w1 ∧ ∃ z : Int64, r = some (.long z) ∧ wayP V b.toInt f.toInt t.toInt n.toInt z.toInt) (0, am_entry 88 [.ref 0, .int b, .int f, .int t, .int n], []) w := by
  have J : ab_J ab_TT ab_sets ab_WR w w := ⟨I, ab_fr.rf⟩
  have szc := szC_in I
  have hsz := R.sz
  show aw none (d + 3) 88 _ (0, [some (.ref 0), some (.int b), some (.int f), some (.int t), some (.int n), none], []) w
  refine aw_step (f1 := (1, [some (.ref 0), some (.int b), some (.int f), some (.int t), some (.int n), none], [(.int b)])) (w1 := w) rfl rfl ?_
  refine s_cs (z := 103) (as := [(.int b)]) (st1 := []) 4 rfl rfl rfl rfl rfl rfl (Nat.le_of_ble_eq_true rfl) (Nat.le_of_ble_eq_true rfl) (Nat.le_of_ble_eq_true rfl) (q_isBoots b) ?_
  rintro _ _ ⟨rfl, x1, rfl, x1t⟩
  refine ⟨rfl, ?_⟩
  show aw none _ 88 _ (4, [some (.ref 0), some (.int b), some (.int f), some (.int t), some (.int n), none], [(.int x1)]) w
  refine s_if 29 7 rfl rfl rfl (fun (h2 : x1.toInt = 0) => ?_) (fun (h2 : ¬ (x1.toInt = 0)) => ?_)
  · --
    refine s_l (pc1 := 32) (ls1 := [some (.ref 0), some (.int b), some (.int f), some (.int t), some (.int n), none]) (st1 := []) rfl rfl fun y3 e4 => ?_
    have e4t : y3.toInt = -1000000000000000001 := by rw [e4]; rfl
    refine aw_ret (v := some (.long y3)) rfl rfl ?_
    first
      | exact ⟨J, y3, rfl, Or.inl ⟨by omega, by omega⟩⟩
      | exact ⟨J, y3, rfl, Or.inr (Or.inl ⟨by omega, by omega, by omega⟩)⟩
  · --
    refine aw_step (f1 := (8, [some (.ref 0), some (.int b), some (.int f), some (.int t), some (.int n), none], [(.ref 0)])) (w1 := w) rfl rfl ?_
    refine s_gr 3 J 11 rfl rfl rfl rfl rfl rfl ?_
    refine aw_step (f1 := (12, [some (.ref 0), some (.int b), some (.int f), some (.int t), some (.int n), none], [(.int f), (.ref 3)])) (w1 := w) rfl rfl ?_
    refine s_cv (z := 39) (p := 3) (as := [(.int f)]) (st1 := []) J 15 rfl rfl rfl rfl rfl rfl rfl rfl (Nat.le_of_ble_eq_true rfl) (Nat.le_of_ble_eq_true rfl) (q_hasCell f J.1) ?_
    rintro _ _ ⟨rfl, x5, rfl, x5t⟩
    refine ⟨rfl, ?_⟩
    show aw none _ 88 _ (15, [some (.ref 0), some (.int b), some (.int f), some (.int t), some (.int n), none], [(.int x5)]) w
    refine s_if 29 18 rfl rfl rfl (fun (h6 : x5.toInt = 0) => ?_) (fun (h6 : ¬ (x5.toInt = 0)) => ?_)
    · --
      refine s_l (pc1 := 32) (ls1 := [some (.ref 0), some (.int b), some (.int f), some (.int t), some (.int n), none]) (st1 := []) rfl rfl fun y7 e8 => ?_
      have e8t : y7.toInt = -1000000000000000001 := by rw [e8]; rfl
      refine aw_ret (v := some (.long y7)) rfl rfl ?_
      first
        | exact ⟨J, y7, rfl, Or.inl ⟨by omega, by omega⟩⟩
        | exact ⟨J, y7, rfl, Or.inr (Or.inl ⟨by omega, by omega, by omega⟩)⟩
    · --
      refine aw_step (f1 := (19, [some (.ref 0), some (.int b), some (.int f), some (.int t), some (.int n), none], [(.ref 0)])) (w1 := w) rfl rfl ?_
      refine s_gr 3 J 22 rfl rfl rfl rfl rfl rfl ?_
      refine aw_step (f1 := (23, [some (.ref 0), some (.int b), some (.int f), some (.int t), some (.int n), none], [(.int t), (.ref 3)])) (w1 := w) rfl rfl ?_
      refine s_cv (z := 39) (p := 3) (as := [(.int t)]) (st1 := []) J 26 rfl rfl rfl rfl rfl rfl rfl rfl (Nat.le_of_ble_eq_true rfl) (Nat.le_of_ble_eq_true rfl) (q_hasCell t J.1) ?_
      rintro _ _ ⟨rfl, x9, rfl, x9t⟩
      refine ⟨rfl, ?_⟩
      show aw none _ 88 _ (26, [some (.ref 0), some (.int b), some (.int f), some (.int t), some (.int n), none], [(.int x9)]) w
      refine s_if 33 29 rfl rfl rfl (fun (h10 : ¬ x9.toInt = 0) => ?_) (fun (h10 : ¬ (¬ x9.toInt = 0)) => ?_)
      · --
        refine aw_step (f1 := (35, [some (.ref 0), some (.int b), some (.int f), some (.int t), some (.int n), none], [(.int n)])) (w1 := w) rfl rfl ?_
        refine s_i (pc1 := 36) (ls1 := [some (.ref 0), some (.int b), some (.int f), some (.int t), some (.int n), none]) (st1 := [(.int n)]) rfl rfl fun x11 e12 => ?_
        have e12t : x11.toInt = 0 := by rw [e12]; rfl
        refine s_i (pc1 := 38) (ls1 := [some (.ref 0), some (.int b), some (.int f), some (.int t), some (.int n), none]) (st1 := [(.int x11), (.int n)]) rfl rfl fun x13 e14 => ?_
        have e14t : x13.toInt = 12 := by rw [e14]; rfl
        refine s_cs (z := 102) (as := [(.int n), (.int x11), (.int x13)]) (st1 := []) 41 rfl rfl rfl rfl rfl rfl (Nat.le_of_ble_eq_true rfl) (Nat.le_of_ble_eq_true rfl) (Nat.le_of_ble_eq_true rfl) (q_within n x11 x13) ?_
        rintro _ _ ⟨rfl, x15, rfl, x15t⟩
        refine ⟨rfl, ?_⟩
        show aw none _ 88 _ (41, [some (.ref 0), some (.int b), some (.int f), some (.int t), some (.int n), none], [(.int x15)]) w
        refine s_if 48 44 rfl rfl rfl (fun (h16 : ¬ x15.toInt = 0) => ?_) (fun (h16 : ¬ (¬ x15.toInt = 0)) => ?_)
        · --
          refine aw_step (f1 := (49, [some (.ref 0), some (.int b), some (.int f), some (.int t), some (.int n), none], [(.ref 0)])) (w1 := w) rfl rfl ?_
          refine s_gr 30 J 52 rfl rfl rfl rfl rfl rfl ?_
          refine aw_step (f1 := (53, [some (.ref 0), some (.int b), some (.int f), some (.int t), some (.int n), none], [(.ref 0), (.ref 30)])) (w1 := w) rfl rfl ?_
          refine s_gr 3 J 56 rfl rfl rfl rfl rfl rfl ?_
          refine aw_step (f1 := (57, [some (.ref 0), some (.int b), some (.int f), some (.int t), some (.int n), none], [(.ref 0), (.ref 3), (.ref 30)])) (w1 := w) rfl rfl ?_
          refine s_gr 3 J 60 rfl rfl rfl rfl rfl rfl ?_
          refine s_gr 7 J 63 rfl rfl rfl rfl rfl rfl ?_
          refine aw_step (f1 := (64, [some (.ref 0), some (.int b), some (.int f), some (.int t), some (.int n), none], [(.int b), (.ref 7), (.ref 3), (.ref 30)])) (w1 := w) rfl rfl ?_
          refine s_ia J 65 rfl rfl rfl rfl (by omega) (by omega) fun x17 x17a x17b x17f => ?_
          have x17v : x17.toInt = rI w 7 b.toInt.toNat := by rw [← rI_of x17f]
          have hlg : x17.toInt = V (8 + 4 * b.toInt.toNat + 0) := by rw [x17v]; exact R.rv (r := 4) (i := b.toInt.toNat) (by decide) (by decide) (by omega) (by show b.toInt.toNat < 4; omega)
          refine aw_step (f1 := (66, [some (.ref 0), some (.int b), some (.int f), some (.int t), some (.int n), none], [(.int f), (.int x17), (.ref 3), (.ref 30)])) (w1 := w) rfl rfl ?_
          refine s_l (pc1 := 67) (ls1 := [some (.ref 0), some (.int b), some (.int f), some (.int t), some (.int n), none]) (st1 := [(.int f), (.int x17), (.ref 3), (.ref 30)]) rfl rfl fun y18 e19 => ?_
          have e19t : y18.toInt = 1 := by rw [e19]; rfl
          refine s_cv (z := 6) (p := 30) (as := [(.ref 3), (.int x17), (.int f), (.long y18)]) (st1 := []) J 70 rfl rfl rfl rfl rfl rfl rfl rfl (Nat.le_of_ble_eq_true rfl) (Nat.le_of_ble_eq_true rfl) (e_obV R oda x17 f y18 ⟨by omega, by omega⟩ ⟨by omega, by omega⟩ J.1) ?_
          rintro _ w20 ⟨rfl, J21c, w20v, w20s, w20l⟩
          have J21 := J.trans J21c
          refine ⟨am_len2 J J21c, ?_⟩
          show aw none _ 88 _ (70, [some (.ref 0), some (.int b), some (.int f), some (.int t), some (.int n), none], []) w20
          refine s_i (pc1 := 71) (ls1 := [some (.ref 0), some (.int b), some (.int f), some (.int t), some (.int n), none]) (st1 := []) rfl rfl fun x22 e23 => ?_
          have e23t : x22.toInt = 0 := by rw [e23]; rfl
          refine aw_step (f1 := (73, [some (.ref 0), some (.int b), some (.int f), some (.int t), some (.int n), some (.int x22)], [])) (w1 := w20) rfl rfl ?_
          have zz : (((szV V).toNat : Nat) : Int) = szV V := by omega
          have n1 : n64 y18 = 1 := n64_c e19t (by decide)
          have g0 : (fun c => if c = f.toInt.toNat then n64 y18 else 0) = wyT (rL w20 33) (szV V).toNat f.toInt.toNat 0 := funext fun c => by rw [n1]; rfl
          have ov : odV w20 (wyT (rL w20 33) (szV V).toNat f.toInt.toNat x22.toInt.toNat) (szV V).toNat := by
            rw [show x22.toInt.toNat = 0 by omega, ← g0]
            exact w20v.le (by omega)
          refine (e_waL (l := rL w20 33) (Z := (szV V).toNat) b f t n (by omega) ⟨by omega, by omega⟩ ⟨by omega, by omega⟩ 13 w20 x22 (by omega) (by omega) (by omega) J21 ov (by rw [w20s]; omega) (fun c hc => rfl)).mono fun r w1 q => ?_
          obtain ⟨q1, z, q2, q3⟩ := q
          refine ⟨q1, z, q2, Or.inr (Or.inr ⟨⟨by omega, by omega, by omega⟩, ⟨by omega, by omega⟩, rL w20 33, fun c hc => ?_, q3⟩)⟩
          have u := w20l c hc
          rw [hlg] at u
          exact u
        · --
          refine s_l (pc1 := 47) (ls1 := [some (.ref 0), some (.int b), some (.int f), some (.int t), some (.int n), none]) (st1 := []) rfl rfl fun y24 e25 => ?_
          have e25t : y24.toInt = -1000000000000000002 := by rw [e25]; rfl
          refine aw_ret (v := some (.long y24)) rfl rfl ?_
          first
            | exact ⟨J, y24, rfl, Or.inl ⟨by omega, by omega⟩⟩
            | exact ⟨J, y24, rfl, Or.inr (Or.inl ⟨by omega, by omega, by omega⟩)⟩
      · --
        refine s_l (pc1 := 32) (ls1 := [some (.ref 0), some (.int b), some (.int f), some (.int t), some (.int n), none]) (st1 := []) rfl rfl fun y26 e27 => ?_
        have e27t : y26.toInt = -1000000000000000001 := by rw [e27]; rfl
        refine aw_ret (v := some (.long y26)) rfl rfl ?_
        first
          | exact ⟨J, y26, rfl, Or.inl ⟨by omega, by omega⟩⟩
          | exact ⟨J, y26, rfl, Or.inr (Or.inl ⟨by omega, by omega, by omega⟩)⟩
theorem e_ocL {d Z : Nat} {w00 : am_W} {l : Nat → Nat} (b f t n p : Int32) (wh : Int64) (hZ : Z ≤ 36) (ht : 0 ≤ t.toInt ∧ t.toInt < (Z : Int)) (hn : 0 ≤ n.toInt ∧ n.toInt ≤ 5) (hw0 : 0 < n64 wh ∧ n64 wh < 9223372036854775808) (hwi : wh.toInt = (n64 wh : Int)) : ∀ (k : Nat) (w : am_W) (i : Int32), (n.toInt - i.toInt).toNat < k → 0 ≤ i.toInt → i.toInt ≤ n.toInt → ab_J ab_TT ab_sets ab_WR w00 w → odV w (chT l Z f.toInt.toNat (n64 wh) i.toInt.toNat) Z → fI w 30 3 = (Z : Int) → (∀ c : Nat, c < Z → rL w 33 c = l c) → aw none (d + 3) 89 (fun r w1 => ab_J ab_TT ab_sets ab_WR w00 w1 ∧ ∃ z : Int64, r = some (.long z) ∧ z.toInt = (((if p.toInt = 0 then chT l Z f.toInt.toNat (n64 wh) n.toInt.toNat t.toInt.toNat else n64 wh) / Nat.gcd (chT l Z f.toInt.toNat (n64 wh) n.toInt.toNat t.toInt.toNat) (n64 wh) : Nat) : Int)) (110, [some (.ref 0), some (.int b), some (.int f), some (.int t), some (.int n), some (.int p), some (.long wh), none, some (.int i), none], []) w := by
  intro k
  induction k with
  | zero => intro w i p; omega
  | succ k ih =>
    intro w i p1 p2 p3 J OV hs hl
    refine aw_step (f1 := (112, [some (.ref 0), some (.int b), some (.int f), some (.int t), some (.int n), some (.int p), some (.long wh), none, some (.int i), none], [(.int i)])) (w1 := w) rfl rfl ?_
    refine aw_step (f1 := (114, [some (.ref 0), some (.int b), some (.int f), some (.int t), some (.int n), some (.int p), some (.long wh), none, some (.int i), none], [(.int n), (.int i)])) (w1 := w) rfl rfl ?_
    refine s_ic 130 117 rfl rfl rfl (fun (h1 : n.toInt ≤ i.toInt) => ?_) (fun (h1 : ¬ (n.toInt ≤ i.toInt)) => ?_)
    · --
      refine aw_step (f1 := (131, [some (.ref 0), some (.int b), some (.int f), some (.int t), some (.int n), some (.int p), some (.long wh), none, some (.int i), none], [(.ref 0)])) (w1 := w) rfl rfl ?_
      refine s_gr 30 J 134 rfl rfl rfl rfl rfl rfl ?_
      rcases OV with ⟨od, rr⟩ | ⟨od, rr⟩
      · refine s_gk (q := 31) J 137 rfl rfl rfl rfl rfl rfl od.1 ?_
        refine aw_step (f1 := (138, [some (.ref 0), some (.int b), some (.int f), some (.int t), some (.int n), some (.int p), some (.long wh), none, some (.int i), none], [(.int t), (.ref 31)])) (w1 := w) rfl rfl ?_
        refine s_la J 139 rfl rfl rfl (by omega) (by omega) fun y2 y2a y2b y2f => ?_
        have ey := (rr t.toInt.toNat (by omega)).symm.trans (rL_of y2f)
        rw [show i.toInt.toNat = n.toInt.toNat by omega] at ey
        have eyb := chT_a (l := l) (f := f.toInt.toNat) (a := n64 wh) (z := Z) (by omega) n.toInt.toNat (d := t.toInt.toNat) (by omega)
        have eyi := n64_toInt (x := y2) (by omega)
        refine aw_step (f1 := (141, [some (.ref 0), some (.int b), some (.int f), some (.int t), some (.int n), some (.int p), some (.long wh), none, some (.int i), none], [(.long wh), (.long y2)])) (w1 := w) rfl rfl ?_
        refine s_cs (z := 101) (as := [(.long y2), (.long wh)]) (st1 := []) 144 rfl rfl rfl rfl rfl rfl (Nat.le_of_ble_eq_true rfl) (Nat.le_of_ble_eq_true rfl) (Nat.le_of_ble_eq_true rfl) (e_cd y2 wh (by omega) (by omega)) ?_
        rintro _ _ ⟨rfl, y3, rfl, y3a, y3t⟩
        refine ⟨rfl, ?_⟩
        show aw none _ 89 _ (144, [some (.ref 0), some (.int b), some (.int f), some (.int t), some (.int n), some (.int p), some (.long wh), none, some (.int i), none], [(.long y3)]) w
        have y3i := n64_of (x := y3) y3a
        have y3p : 0 < n64 y3 := by rw [y3t]; exact Nat.gcd_pos_of_pos_right _ (by omega)
        refine aw_step (f1 := (146, [some (.ref 0), some (.int b), some (.int f), some (.int t), some (.int n), some (.int p), some (.long wh), none, some (.long y3), none], [])) (w1 := w) rfl rfl ?_
        refine aw_step (f1 := (148, [some (.ref 0), some (.int b), some (.int f), some (.int t), some (.int n), some (.int p), some (.long wh), none, some (.long y3), none], [(.long y3)])) (w1 := w) rfl rfl ?_
        refine s_l (pc1 := 149) (ls1 := [some (.ref 0), some (.int b), some (.int f), some (.int t), some (.int n), some (.int p), some (.long wh), none, some (.long y3), none]) (st1 := [(.long y3)]) rfl rfl fun y4 e5 => ?_
        have e5t : y4.toInt = 0 := by rw [e5]; rfl
        refine s_lc 155 153 150 rfl rfl rfl rfl rfl (fun (h6 : ¬ y3.toInt = y4.toInt) => ?_) (fun (h6 : ¬ (¬ y3.toInt = y4.toInt)) => ?_)
        · --
          refine aw_step (f1 := (157, [some (.ref 0), some (.int b), some (.int f), some (.int t), some (.int n), some (.int p), some (.long wh), none, some (.long y3), none], [(.int p)])) (w1 := w) rfl rfl ?_
          refine s_if 172 160 rfl rfl rfl (fun (h7 : ¬ p.toInt = 0) => ?_) (fun (h7 : ¬ (¬ p.toInt = 0)) => ?_)
          · --
            refine aw_step (f1 := (174, [some (.ref 0), some (.int b), some (.int f), some (.int t), some (.int n), some (.int p), some (.long wh), none, some (.long y3), none], [(.long wh)])) (w1 := w) rfl rfl ?_
            --
            refine aw_step (f1 := (176, [some (.ref 0), some (.int b), some (.int f), some (.int t), some (.int n), some (.int p), some (.long wh), none, some (.long y3), none], [(.long y3), (.long wh)])) (w1 := w) rfl rfl ?_
            refine s_dvl (f := fun x y => x / y) 177 rfl rfl (by omega) fun y8 e9 => ?_
            have e9 : y8 = wh / y3 := e9
            refine aw_ret (v := some (.long y8)) rfl rfl ?_
            first
              | (exfalso; omega)
              | (have dv := n64_div (x := wh) (y := y3) (by omega) (by omega)
                 rw [← e9] at dv
                 have zi := n64_of (x := y8) dv.2
                 refine ⟨J, y8, rfl, ?_⟩
                 rw [← zi.1, dv.1, y3t, ← ey]
                 first
                   | rw [if_pos (by omega), ← ey2]
                   | rw [if_neg (by omega)])
          · --
            refine aw_step (f1 := (161, [some (.ref 0), some (.int b), some (.int f), some (.int t), some (.int n), some (.int p), some (.long wh), none, some (.long y3), none], [(.ref 0)])) (w1 := w) rfl rfl ?_
            refine s_gr 30 J 164 rfl rfl rfl rfl rfl rfl ?_
            refine s_gk (q := 31) J 167 rfl rfl rfl rfl rfl rfl (od.1) ?_
            refine aw_step (f1 := (168, [some (.ref 0), some (.int b), some (.int f), some (.int t), some (.int n), some (.int p), some (.long wh), none, some (.long y3), none], [(.int t), (.ref 31)])) (w1 := w) rfl rfl ?_
            refine s_la J 169 rfl rfl rfl (by omega) (by omega) fun y10 y10a y10b y10f => ?_
            have ey2 := (rr t.toInt.toNat (by omega)).symm.trans (rL_of y10f)
            rw [show i.toInt.toNat = n.toInt.toNat by omega] at ey2
            have ey2b := chT_a (l := l) (f := f.toInt.toNat) (a := n64 wh) (z := Z) (by omega) n.toInt.toNat (d := t.toInt.toNat) (by omega)
            have ey2i := n64_toInt (x := y10) (by omega)
            refine aw_step (f1 := (174, [some (.ref 0), some (.int b), some (.int f), some (.int t), some (.int n), some (.int p), some (.long wh), none, some (.long y3), none], [(.long y10)])) (w1 := w) rfl rfl ?_
            --
            refine aw_step (f1 := (176, [some (.ref 0), some (.int b), some (.int f), some (.int t), some (.int n), some (.int p), some (.long wh), none, some (.long y3), none], [(.long y3), (.long y10)])) (w1 := w) rfl rfl ?_
            refine s_dvl (f := fun x y => x / y) 177 rfl rfl (by omega) fun y11 e12 => ?_
            have e12 : y11 = y10 / y3 := e12
            refine aw_ret (v := some (.long y11)) rfl rfl ?_
            first
              | (exfalso; omega)
              | (have dv := n64_div (x := y10) (y := y3) (by omega) (by omega)
                 rw [← e12] at dv
                 have zi := n64_of (x := y11) dv.2
                 refine ⟨J, y11, rfl, ?_⟩
                 rw [← zi.1, dv.1, y3t, ← ey]
                 first
                   | rw [if_pos (by omega), ← ey2]
                   | rw [if_neg (by omega)])
        · --
          refine s_l (pc1 := 154) (ls1 := [some (.ref 0), some (.int b), some (.int f), some (.int t), some (.int n), some (.int p), some (.long wh), none, some (.long y3), none]) (st1 := []) rfl rfl fun y13 e14 => ?_
          have e14t : y13.toInt = 0 := by rw [e14]; rfl
          refine aw_ret (v := some (.long y13)) rfl rfl ?_
          first
            | (exfalso; omega)
            | (have dv := n64_div (x := y10) (y := y3) (by omega) (by omega)
               rw [← e14] at dv
               have zi := n64_of (x := y13) dv.2
               refine ⟨J, y13, rfl, ?_⟩
               rw [← zi.1, dv.1, y3t, ← ey]
               first
                 | rw [if_pos (by omega), ← ey2]
                 | rw [if_neg (by omega)])
      · refine s_gk (q := 32) J 137 rfl rfl rfl rfl rfl rfl od.1 ?_
        refine aw_step (f1 := (138, [some (.ref 0), some (.int b), some (.int f), some (.int t), some (.int n), some (.int p), some (.long wh), none, some (.int i), none], [(.int t), (.ref 32)])) (w1 := w) rfl rfl ?_
        refine s_la J 139 rfl rfl rfl (by omega) (by omega) fun y15 y15a y15b y15f => ?_
        have ey := (rr t.toInt.toNat (by omega)).symm.trans (rL_of y15f)
        rw [show i.toInt.toNat = n.toInt.toNat by omega] at ey
        have eyb := chT_a (l := l) (f := f.toInt.toNat) (a := n64 wh) (z := Z) (by omega) n.toInt.toNat (d := t.toInt.toNat) (by omega)
        have eyi := n64_toInt (x := y15) (by omega)
        refine aw_step (f1 := (141, [some (.ref 0), some (.int b), some (.int f), some (.int t), some (.int n), some (.int p), some (.long wh), none, some (.int i), none], [(.long wh), (.long y15)])) (w1 := w) rfl rfl ?_
        refine s_cs (z := 101) (as := [(.long y15), (.long wh)]) (st1 := []) 144 rfl rfl rfl rfl rfl rfl (Nat.le_of_ble_eq_true rfl) (Nat.le_of_ble_eq_true rfl) (Nat.le_of_ble_eq_true rfl) (e_cd y15 wh (by omega) (by omega)) ?_
        rintro _ _ ⟨rfl, y16, rfl, y16a, y16t⟩
        refine ⟨rfl, ?_⟩
        show aw none _ 89 _ (144, [some (.ref 0), some (.int b), some (.int f), some (.int t), some (.int n), some (.int p), some (.long wh), none, some (.int i), none], [(.long y16)]) w
        have y16i := n64_of (x := y16) y16a
        have y16p : 0 < n64 y16 := by rw [y16t]; exact Nat.gcd_pos_of_pos_right _ (by omega)
        refine aw_step (f1 := (146, [some (.ref 0), some (.int b), some (.int f), some (.int t), some (.int n), some (.int p), some (.long wh), none, some (.long y16), none], [])) (w1 := w) rfl rfl ?_
        refine aw_step (f1 := (148, [some (.ref 0), some (.int b), some (.int f), some (.int t), some (.int n), some (.int p), some (.long wh), none, some (.long y16), none], [(.long y16)])) (w1 := w) rfl rfl ?_
        refine s_l (pc1 := 149) (ls1 := [some (.ref 0), some (.int b), some (.int f), some (.int t), some (.int n), some (.int p), some (.long wh), none, some (.long y16), none]) (st1 := [(.long y16)]) rfl rfl fun y17 e18 => ?_
        have e18t : y17.toInt = 0 := by rw [e18]; rfl
        refine s_lc 155 153 150 rfl rfl rfl rfl rfl (fun (h19 : ¬ y16.toInt = y17.toInt) => ?_) (fun (h19 : ¬ (¬ y16.toInt = y17.toInt)) => ?_)
        · --
          refine aw_step (f1 := (157, [some (.ref 0), some (.int b), some (.int f), some (.int t), some (.int n), some (.int p), some (.long wh), none, some (.long y16), none], [(.int p)])) (w1 := w) rfl rfl ?_
          refine s_if 172 160 rfl rfl rfl (fun (h20 : ¬ p.toInt = 0) => ?_) (fun (h20 : ¬ (¬ p.toInt = 0)) => ?_)
          · --
            refine aw_step (f1 := (174, [some (.ref 0), some (.int b), some (.int f), some (.int t), some (.int n), some (.int p), some (.long wh), none, some (.long y16), none], [(.long wh)])) (w1 := w) rfl rfl ?_
            --
            refine aw_step (f1 := (176, [some (.ref 0), some (.int b), some (.int f), some (.int t), some (.int n), some (.int p), some (.long wh), none, some (.long y16), none], [(.long y16), (.long wh)])) (w1 := w) rfl rfl ?_
            refine s_dvl (f := fun x y => x / y) 177 rfl rfl (by omega) fun y21 e22 => ?_
            have e22 : y21 = wh / y16 := e22
            refine aw_ret (v := some (.long y21)) rfl rfl ?_
            first
              | (exfalso; omega)
              | (have dv := n64_div (x := wh) (y := y16) (by omega) (by omega)
                 rw [← e22] at dv
                 have zi := n64_of (x := y21) dv.2
                 refine ⟨J, y21, rfl, ?_⟩
                 rw [← zi.1, dv.1, y16t, ← ey]
                 first
                   | rw [if_pos (by omega), ← ey2]
                   | rw [if_neg (by omega)])
          · --
            refine aw_step (f1 := (161, [some (.ref 0), some (.int b), some (.int f), some (.int t), some (.int n), some (.int p), some (.long wh), none, some (.long y16), none], [(.ref 0)])) (w1 := w) rfl rfl ?_
            refine s_gr 30 J 164 rfl rfl rfl rfl rfl rfl ?_
            refine s_gk (q := 32) J 167 rfl rfl rfl rfl rfl rfl (od.1) ?_
            refine aw_step (f1 := (168, [some (.ref 0), some (.int b), some (.int f), some (.int t), some (.int n), some (.int p), some (.long wh), none, some (.long y16), none], [(.int t), (.ref 32)])) (w1 := w) rfl rfl ?_
            refine s_la J 169 rfl rfl rfl (by omega) (by omega) fun y23 y23a y23b y23f => ?_
            have ey2 := (rr t.toInt.toNat (by omega)).symm.trans (rL_of y23f)
            rw [show i.toInt.toNat = n.toInt.toNat by omega] at ey2
            have ey2b := chT_a (l := l) (f := f.toInt.toNat) (a := n64 wh) (z := Z) (by omega) n.toInt.toNat (d := t.toInt.toNat) (by omega)
            have ey2i := n64_toInt (x := y23) (by omega)
            refine aw_step (f1 := (174, [some (.ref 0), some (.int b), some (.int f), some (.int t), some (.int n), some (.int p), some (.long wh), none, some (.long y16), none], [(.long y23)])) (w1 := w) rfl rfl ?_
            --
            refine aw_step (f1 := (176, [some (.ref 0), some (.int b), some (.int f), some (.int t), some (.int n), some (.int p), some (.long wh), none, some (.long y16), none], [(.long y16), (.long y23)])) (w1 := w) rfl rfl ?_
            refine s_dvl (f := fun x y => x / y) 177 rfl rfl (by omega) fun y24 e25 => ?_
            have e25 : y24 = y23 / y16 := e25
            refine aw_ret (v := some (.long y24)) rfl rfl ?_
            first
              | (exfalso; omega)
              | (have dv := n64_div (x := y23) (y := y16) (by omega) (by omega)
                 rw [← e25] at dv
                 have zi := n64_of (x := y24) dv.2
                 refine ⟨J, y24, rfl, ?_⟩
                 rw [← zi.1, dv.1, y16t, ← ey]
                 first
                   | rw [if_pos (by omega), ← ey2]
                   | rw [if_neg (by omega)])
        · --
          refine s_l (pc1 := 154) (ls1 := [some (.ref 0), some (.int b), some (.int f), some (.int t), some (.int n), some (.int p), some (.long wh), none, some (.long y16), none]) (st1 := []) rfl rfl fun y26 e27 => ?_
          have e27t : y26.toInt = 0 := by rw [e27]; rfl
          refine aw_ret (v := some (.long y26)) rfl rfl ?_
          first
            | (exfalso; omega)
            | (have dv := n64_div (x := y23) (y := y16) (by omega) (by omega)
               rw [← e27] at dv
               have zi := n64_of (x := y26) dv.2
               refine ⟨J, y26, rfl, ?_⟩
               rw [← zi.1, dv.1, y16t, ← ey]
               first
                 | rw [if_pos (by omega), ← ey2]
                 | rw [if_neg (by omega)])
    · --
      refine aw_step (f1 := (118, [some (.ref 0), some (.int b), some (.int f), some (.int t), some (.int n), some (.int p), some (.long wh), none, some (.int i), none], [(.ref 0)])) (w1 := w) rfl rfl ?_
      refine s_gr 30 J 121 rfl rfl rfl rfl rfl rfl ?_
      refine s_cv (z := 8) (p := 30) (as := []) (st1 := []) J 124 rfl rfl rfl rfl rfl rfl rfl rfl (Nat.le_of_ble_eq_true rfl) (Nat.le_of_ble_eq_true rfl) (e_stLotV OV hs hl hZ (by omega) J.1) ?_
      rintro _ w28 ⟨rfl, J29c, w28v, w28s, w28l⟩
      have J29 := J.trans J29c
      refine ⟨am_len2 J J29c, ?_⟩
      show aw none _ 89 _ (124, [some (.ref 0), some (.int b), some (.int f), some (.int t), some (.int n), some (.int p), some (.long wh), none, some (.int i), none], []) w28
      refine aw_step (f1 := (127, [some (.ref 0), some (.int b), some (.int f), some (.int t), some (.int n), some (.int p), some (.long wh), none, some (.int (i + Int32.ofInt 1)), none], [])) (w1 := w28) rfl rfl ?_
      obtain ⟨x30, x30e⟩ : ∃ z, z = (i + Int32.ofInt 1) := ⟨_, rfl⟩
      have x30t : x30.toInt = i.toInt + (1) := by rw [x30e]; exact n_add (y := Int32.ofInt (1)) (by show _ ≤ _ + (1 : Int); omega) (by show _ + (1 : Int) ≤ _; omega)
      rw [← x30e]
      refine aw_step (f1 := (110, [some (.ref 0), some (.int b), some (.int f), some (.int t), some (.int n), some (.int p), some (.long wh), none, some (.int x30), none], [])) (w1 := w28) rfl rfl ?_
      exact ih w28 x30 (by omega) (by omega) (by omega) J29 (by rw [show x30.toInt.toNat = i.toInt.toNat + 1 by omega]; exact w28v) w28s w28l
theorem e_ch1 {d : Nat} {w : am_W} {V : Nat → Int} (R : RCs w 3 V) (oda : odA w) (b f t n p : Int32) (hb : 0 ≤ b.toInt ∧ b.toInt ≤ 3) (hf : 0 ≤ f.toInt ∧ f.toInt < szV V) (ht : 0 ≤ t.toInt ∧ t.toInt < szV V) (hn : 0 ≤ n.toInt ∧ n.toInt ≤ 5) (hp : 0 ≤ p.toInt ∧ p.toInt ≤ 1) (szc : 1 ≤ szV V ∧ szV V ≤ 36) (J : ab_J ab_TT ab_sets ab_WR w w) : ∀ (k : Nat) (wh : Int64) (i : Int32), (n.toInt - i.toInt).toNat < k → 0 ≤ i.toInt → i.toInt ≤ n.toInt → n64 wh = 840 ^ i.toInt.toNat → aw none (d + 3) 89 (fun r w1 => ab_J ab_TT ab_sets ab_WR w w1 ∧ ∃ z : Int64, r = some (.long z) ∧ chcP V b.toInt f.toInt t.toInt n.toInt p.toInt z.toInt) (63, [some (.ref 0), some (.int b), some (.int f), some (.int t), some (.int n), some (.int p), some (.long wh), none, some (.int i), none], []) w := by
  intro k
  induction k with
  | zero => intro wh i p; omega
  | succ k ihc =>
    intro wh i p1 p2 p3 F
    refine aw_step (f1 := (65, [some (.ref 0), some (.int b), some (.int f), some (.int t), some (.int n), some (.int p), some (.long wh), none, some (.int i), none], [(.int i)])) (w1 := w) rfl rfl ?_
    refine aw_step (f1 := (67, [some (.ref 0), some (.int b), some (.int f), some (.int t), some (.int n), some (.int p), some (.long wh), none, some (.int i), none], [(.int n), (.int i)])) (w1 := w) rfl rfl ?_
    refine s_ic 84 70 rfl rfl rfl (fun (h1 : n.toInt ≤ i.toInt) => ?_) (fun (h1 : ¬ (n.toInt ≤ i.toInt)) => ?_)
    · --
      have pw1 : 1 ≤ 840 ^ i.toInt.toNat := Nat.one_le_pow _ _ (by decide)
      have pw2 : 840 ^ i.toInt.toNat ≤ 840 ^ 5 := Nat.pow_le_pow_right (by decide) (by omega)
      have pw3 : (840 : Nat) ^ 5 = 418211942400000 := by decide
      have hwi : wh.toInt = (n64 wh : Int) := n64_toInt (by omega)
      refine aw_step (f1 := (85, [some (.ref 0), some (.int b), some (.int f), some (.int t), some (.int n), some (.int p), some (.long wh), none, some (.int i), none], [(.ref 0)])) (w1 := w) rfl rfl ?_
      refine s_gr 30 J 88 rfl rfl rfl rfl rfl rfl ?_
      refine aw_step (f1 := (89, [some (.ref 0), some (.int b), some (.int f), some (.int t), some (.int n), some (.int p), some (.long wh), none, some (.int i), none], [(.ref 0), (.ref 30)])) (w1 := w) rfl rfl ?_
      refine s_gr 3 J 92 rfl rfl rfl rfl rfl rfl ?_
      refine aw_step (f1 := (93, [some (.ref 0), some (.int b), some (.int f), some (.int t), some (.int n), some (.int p), some (.long wh), none, some (.int i), none], [(.ref 0), (.ref 3), (.ref 30)])) (w1 := w) rfl rfl ?_
      refine s_gr 3 J 96 rfl rfl rfl rfl rfl rfl ?_
      refine s_gr 7 J 99 rfl rfl rfl rfl rfl rfl ?_
      refine aw_step (f1 := (100, [some (.ref 0), some (.int b), some (.int f), some (.int t), some (.int n), some (.int p), some (.long wh), none, some (.int i), none], [(.int b), (.ref 7), (.ref 3), (.ref 30)])) (w1 := w) rfl rfl ?_
      --
      refine s_ia J 101 rfl rfl rfl rfl (by omega) (by omega) fun x2 x2a x2b x2f => ?_
      have x2v : x2.toInt = rI w 7 b.toInt.toNat := by rw [← rI_of x2f]
      have hlg : x2.toInt = V (8 + 4 * b.toInt.toNat + 0) := by rw [x2v]; exact R.rv (r := 4) (i := b.toInt.toNat) (by decide) (by decide) (by omega) (by show b.toInt.toNat < 4; omega)
      refine aw_step (f1 := (102, [some (.ref 0), some (.int b), some (.int f), some (.int t), some (.int n), some (.int p), some (.long wh), none, some (.int i), none], [(.int f), (.int x2), (.ref 3), (.ref 30)])) (w1 := w) rfl rfl ?_
      refine aw_step (f1 := (104, [some (.ref 0), some (.int b), some (.int f), some (.int t), some (.int n), some (.int p), some (.long wh), none, some (.int i), none], [(.long wh), (.int f), (.int x2), (.ref 3), (.ref 30)])) (w1 := w) rfl rfl ?_
      refine s_cv (z := 6) (p := 30) (as := [(.ref 3), (.int x2), (.int f), (.long wh)]) (st1 := []) J 107 rfl rfl rfl rfl rfl rfl rfl rfl (Nat.le_of_ble_eq_true rfl) (Nat.le_of_ble_eq_true rfl) (e_obV R oda x2 f wh ⟨by omega, by omega⟩ ⟨by omega, by omega⟩ J.1) ?_
      rintro _ w3 ⟨rfl, J4c, w3v, w3s, w3l⟩
      have J4 := J.trans J4c
      refine ⟨am_len2 J J4c, ?_⟩
      show aw none _ 89 _ (107, [some (.ref 0), some (.int b), some (.int f), some (.int t), some (.int n), some (.int p), some (.long wh), none, some (.int i), none], []) w3
      refine s_i (pc1 := 108) (ls1 := [some (.ref 0), some (.int b), some (.int f), some (.int t), some (.int n), some (.int p), some (.long wh), none, some (.int i), none]) (st1 := []) rfl rfl fun x5 e6 => ?_
      have e6t : x5.toInt = 0 := by rw [e6]; rfl
      refine aw_step (f1 := (110, [some (.ref 0), some (.int b), some (.int f), some (.int t), some (.int n), some (.int p), some (.long wh), none, some (.int x5), none], [])) (w1 := w3) rfl rfl ?_
      have zz : (((szV V).toNat : Nat) : Int) = szV V := by omega
      have g0 : (fun c => if c = f.toInt.toNat then n64 wh else 0) = chT (rL w3 33) (szV V).toNat f.toInt.toNat (n64 wh) 0 := funext fun c => rfl
      have ov : odV w3 (chT (rL w3 33) (szV V).toNat f.toInt.toNat (n64 wh) x5.toInt.toNat) (szV V).toNat := by
        rw [show x5.toInt.toNat = 0 by omega, ← g0]
        exact w3v.le (by omega)
      have F2 := F
      rw [show i.toInt.toNat = n.toInt.toNat by omega] at F2
      refine (e_ocL (l := rL w3 33) (Z := (szV V).toNat) b f t n p wh (by omega) ⟨by omega, by omega⟩ ⟨by omega, by omega⟩ ⟨by omega, by omega⟩ (by omega) 6 w3 x5 (by omega) (by omega) (by omega) J4 ov (by rw [w3s]; omega) (fun c hc => rfl)).mono fun r w1 q => ?_
      obtain ⟨q1, z, q2, q3⟩ := q
      refine ⟨q1, z, q2, Or.inr (Or.inr ⟨⟨by omega, by omega, by omega⟩, ⟨by omega, by omega⟩, ⟨by omega, by omega⟩, rL w3 33, fun c hc => ?_, ?_⟩)⟩
      · have u := w3l c hc
        rw [hlg] at u
        exact u
      · rw [q3, F2]
    · --
      refine aw_step (f1 := (72, [some (.ref 0), some (.int b), some (.int f), some (.int t), some (.int n), some (.int p), some (.long wh), none, some (.int i), none], [(.long wh)])) (w1 := w) rfl rfl ?_
      refine s_l (pc1 := 75) (ls1 := [some (.ref 0), some (.int b), some (.int f), some (.int t), some (.int n), some (.int p), some (.long wh), none, some (.int i), none]) (st1 := [(.long wh)]) rfl rfl fun y7 e8 => ?_
      have e8t : y7.toInt = 840 := by rw [e8]; rfl
      --
      refine s_l (pc1 := 76) (ls1 := [some (.ref 0), some (.int b), some (.int f), some (.int t), some (.int n), some (.int p), some (.long wh), none, some (.int i), none]) (st1 := []) rfl rfl fun y9 e10 => ?_
      have e10 : y9 = wh * y7 := e10
      --
      refine aw_step (f1 := (78, [some (.ref 0), some (.int b), some (.int f), some (.int t), some (.int n), some (.int p), some (.long y9), none, some (.int i), none], [])) (w1 := w) rfl rfl ?_
      refine aw_step (f1 := (81, [some (.ref 0), some (.int b), some (.int f), some (.int t), some (.int n), some (.int p), some (.long y9), none, some (.int (i + Int32.ofInt 1)), none], [])) (w1 := w) rfl rfl ?_
      obtain ⟨x11, x11e⟩ : ∃ z, z = (i + Int32.ofInt 1) := ⟨_, rfl⟩
      have x11t : x11.toInt = i.toInt + (1) := by rw [x11e]; exact n_add (y := Int32.ofInt (1)) (by show _ ≤ _ + (1 : Int); omega) (by show _ + (1 : Int) ≤ _; omega)
      rw [← x11e]
      refine aw_step (f1 := (63, [some (.ref 0), some (.int b), some (.int f), some (.int t), some (.int n), some (.int p), some (.long y9), none, some (.int x11), none], [])) (w1 := w) rfl rfl ?_
      exact ihc y9 x11 (by omega) (by omega) (by omega) (by rw [e10, n64_mulm, F, n64_c e8t (by decide), show x11.toInt.toNat = i.toInt.toNat + 1 by omega, Nat.pow_succ]; exact Nat.mod_eq_of_lt (by have a1 : 840 ^ i.toInt.toNat ≤ 840 ^ 4 := Nat.pow_le_pow_right (by decide) (by omega); have a2 : (840 : Nat) ^ 4 = 497871360000 := (by decide); show 840 ^ i.toInt.toNat * 840 < _; omega))
theorem e_chance {d : Nat} {w : am_W} {V : Nat → Int} (R : RCs w 3 V) (oda : odA w) (b f t n p : Int32) (I : ab_inv ab_TT ab_sets w) : aw none (d + 3) 89 (fun r w1 => ab_J ab_TT ab_sets ab_WR w w1 ∧ ∃ z : Int64, r = some (.long z) ∧ chcP V b.toInt f.toInt t.toInt n.toInt p.toInt z.toInt) (0, am_entry 89 [.ref 0, .int b, .int f, .int t, .int n, .int p], []) w := by
  have J : ab_J ab_TT ab_sets ab_WR w w := ⟨I, ab_fr.rf⟩
  have szc := szC_in I
  have hsz := R.sz
  show aw none (d + 3) 89 _ (0, [some (.ref 0), some (.int b), some (.int f), some (.int t), some (.int n), some (.int p), none, none, none, none], []) w
  refine aw_step (f1 := (1, [some (.ref 0), some (.int b), some (.int f), some (.int t), some (.int n), some (.int p), none, none, none, none], [(.int b)])) (w1 := w) rfl rfl ?_
  refine s_cs (z := 103) (as := [(.int b)]) (st1 := []) 4 rfl rfl rfl rfl rfl rfl (Nat.le_of_ble_eq_true rfl) (Nat.le_of_ble_eq_true rfl) (Nat.le_of_ble_eq_true rfl) (q_isBoots b) ?_
  rintro _ _ ⟨rfl, x1, rfl, x1t⟩
  refine ⟨rfl, ?_⟩
  show aw none _ 89 _ (4, [some (.ref 0), some (.int b), some (.int f), some (.int t), some (.int n), some (.int p), none, none, none, none], [(.int x1)]) w
  refine s_if 29 7 rfl rfl rfl (fun (h2 : x1.toInt = 0) => ?_) (fun (h2 : ¬ (x1.toInt = 0)) => ?_)
  · --
    refine s_l (pc1 := 32) (ls1 := [some (.ref 0), some (.int b), some (.int f), some (.int t), some (.int n), some (.int p), none, none, none, none]) (st1 := []) rfl rfl fun y3 e4 => ?_
    have e4t : y3.toInt = -1000000000000000001 := by rw [e4]; rfl
    refine aw_ret (v := some (.long y3)) rfl rfl ?_
    first
      | exact ⟨J, y3, rfl, Or.inl ⟨by omega, by omega⟩⟩
      | exact ⟨J, y3, rfl, Or.inr (Or.inl ⟨by omega, by omega, by omega⟩)⟩
  · --
    refine aw_step (f1 := (8, [some (.ref 0), some (.int b), some (.int f), some (.int t), some (.int n), some (.int p), none, none, none, none], [(.ref 0)])) (w1 := w) rfl rfl ?_
    refine s_gr 3 J 11 rfl rfl rfl rfl rfl rfl ?_
    refine aw_step (f1 := (12, [some (.ref 0), some (.int b), some (.int f), some (.int t), some (.int n), some (.int p), none, none, none, none], [(.int f), (.ref 3)])) (w1 := w) rfl rfl ?_
    refine s_cv (z := 39) (p := 3) (as := [(.int f)]) (st1 := []) J 15 rfl rfl rfl rfl rfl rfl rfl rfl (Nat.le_of_ble_eq_true rfl) (Nat.le_of_ble_eq_true rfl) (q_hasCell f J.1) ?_
    rintro _ _ ⟨rfl, x5, rfl, x5t⟩
    refine ⟨rfl, ?_⟩
    show aw none _ 89 _ (15, [some (.ref 0), some (.int b), some (.int f), some (.int t), some (.int n), some (.int p), none, none, none, none], [(.int x5)]) w
    refine s_if 29 18 rfl rfl rfl (fun (h6 : x5.toInt = 0) => ?_) (fun (h6 : ¬ (x5.toInt = 0)) => ?_)
    · --
      refine s_l (pc1 := 32) (ls1 := [some (.ref 0), some (.int b), some (.int f), some (.int t), some (.int n), some (.int p), none, none, none, none]) (st1 := []) rfl rfl fun y7 e8 => ?_
      have e8t : y7.toInt = -1000000000000000001 := by rw [e8]; rfl
      refine aw_ret (v := some (.long y7)) rfl rfl ?_
      first
        | exact ⟨J, y7, rfl, Or.inl ⟨by omega, by omega⟩⟩
        | exact ⟨J, y7, rfl, Or.inr (Or.inl ⟨by omega, by omega, by omega⟩)⟩
    · --
      refine aw_step (f1 := (19, [some (.ref 0), some (.int b), some (.int f), some (.int t), some (.int n), some (.int p), none, none, none, none], [(.ref 0)])) (w1 := w) rfl rfl ?_
      refine s_gr 3 J 22 rfl rfl rfl rfl rfl rfl ?_
      refine aw_step (f1 := (23, [some (.ref 0), some (.int b), some (.int f), some (.int t), some (.int n), some (.int p), none, none, none, none], [(.int t), (.ref 3)])) (w1 := w) rfl rfl ?_
      refine s_cv (z := 39) (p := 3) (as := [(.int t)]) (st1 := []) J 26 rfl rfl rfl rfl rfl rfl rfl rfl (Nat.le_of_ble_eq_true rfl) (Nat.le_of_ble_eq_true rfl) (q_hasCell t J.1) ?_
      rintro _ _ ⟨rfl, x9, rfl, x9t⟩
      refine ⟨rfl, ?_⟩
      show aw none _ 89 _ (26, [some (.ref 0), some (.int b), some (.int f), some (.int t), some (.int n), some (.int p), none, none, none, none], [(.int x9)]) w
      refine s_if 33 29 rfl rfl rfl (fun (h10 : ¬ x9.toInt = 0) => ?_) (fun (h10 : ¬ (¬ x9.toInt = 0)) => ?_)
      · --
        refine aw_step (f1 := (35, [some (.ref 0), some (.int b), some (.int f), some (.int t), some (.int n), some (.int p), none, none, none, none], [(.int n)])) (w1 := w) rfl rfl ?_
        refine s_i (pc1 := 36) (ls1 := [some (.ref 0), some (.int b), some (.int f), some (.int t), some (.int n), some (.int p), none, none, none, none]) (st1 := [(.int n)]) rfl rfl fun x11 e12 => ?_
        have e12t : x11.toInt = 0 := by rw [e12]; rfl
        refine s_i (pc1 := 37) (ls1 := [some (.ref 0), some (.int b), some (.int f), some (.int t), some (.int n), some (.int p), none, none, none, none]) (st1 := [(.int x11), (.int n)]) rfl rfl fun x13 e14 => ?_
        have e14t : x13.toInt = 5 := by rw [e14]; rfl
        refine s_cs (z := 102) (as := [(.int n), (.int x11), (.int x13)]) (st1 := []) 40 rfl rfl rfl rfl rfl rfl (Nat.le_of_ble_eq_true rfl) (Nat.le_of_ble_eq_true rfl) (Nat.le_of_ble_eq_true rfl) (q_within n x11 x13) ?_
        rintro _ _ ⟨rfl, x15, rfl, x15t⟩
        refine ⟨rfl, ?_⟩
        show aw none _ 89 _ (40, [some (.ref 0), some (.int b), some (.int f), some (.int t), some (.int n), some (.int p), none, none, none, none], [(.int x15)]) w
        refine s_if 53 43 rfl rfl rfl (fun (h16 : x15.toInt = 0) => ?_) (fun (h16 : ¬ (x15.toInt = 0)) => ?_)
        · --
          refine s_l (pc1 := 56) (ls1 := [some (.ref 0), some (.int b), some (.int f), some (.int t), some (.int n), some (.int p), none, none, none, none]) (st1 := []) rfl rfl fun y17 e18 => ?_
          have e18t : y17.toInt = -1000000000000000002 := by rw [e18]; rfl
          refine aw_ret (v := some (.long y17)) rfl rfl ?_
          first
            | exact ⟨J, y17, rfl, Or.inl ⟨by omega, by omega⟩⟩
            | exact ⟨J, y17, rfl, Or.inr (Or.inl ⟨by omega, by omega, by omega⟩)⟩
        · --
          refine aw_step (f1 := (45, [some (.ref 0), some (.int b), some (.int f), some (.int t), some (.int n), some (.int p), none, none, none, none], [(.int p)])) (w1 := w) rfl rfl ?_
          refine s_i (pc1 := 46) (ls1 := [some (.ref 0), some (.int b), some (.int f), some (.int t), some (.int n), some (.int p), none, none, none, none]) (st1 := [(.int p)]) rfl rfl fun x19 e20 => ?_
          have e20t : x19.toInt = 0 := by rw [e20]; rfl
          refine s_i (pc1 := 47) (ls1 := [some (.ref 0), some (.int b), some (.int f), some (.int t), some (.int n), some (.int p), none, none, none, none]) (st1 := [(.int x19), (.int p)]) rfl rfl fun x21 e22 => ?_
          have e22t : x21.toInt = 1 := by rw [e22]; rfl
          refine s_cs (z := 102) (as := [(.int p), (.int x19), (.int x21)]) (st1 := []) 50 rfl rfl rfl rfl rfl rfl (Nat.le_of_ble_eq_true rfl) (Nat.le_of_ble_eq_true rfl) (Nat.le_of_ble_eq_true rfl) (q_within p x19 x21) ?_
          rintro _ _ ⟨rfl, x23, rfl, x23t⟩
          refine ⟨rfl, ?_⟩
          show aw none _ 89 _ (50, [some (.ref 0), some (.int b), some (.int f), some (.int t), some (.int n), some (.int p), none, none, none, none], [(.int x23)]) w
          refine s_if 57 53 rfl rfl rfl (fun (h24 : ¬ x23.toInt = 0) => ?_) (fun (h24 : ¬ (¬ x23.toInt = 0)) => ?_)
          · --
            refine s_l (pc1 := 58) (ls1 := [some (.ref 0), some (.int b), some (.int f), some (.int t), some (.int n), some (.int p), none, none, none, none]) (st1 := []) rfl rfl fun y25 e26 => ?_
            have e26t : y25.toInt = 1 := by rw [e26]; rfl
            refine aw_step (f1 := (60, [some (.ref 0), some (.int b), some (.int f), some (.int t), some (.int n), some (.int p), some (.long y25), none, none, none], [])) (w1 := w) rfl rfl ?_
            refine s_i (pc1 := 61) (ls1 := [some (.ref 0), some (.int b), some (.int f), some (.int t), some (.int n), some (.int p), some (.long y25), none, none, none]) (st1 := []) rfl rfl fun x27 e28 => ?_
            have e28t : x27.toInt = 0 := by rw [e28]; rfl
            refine aw_step (f1 := (63, [some (.ref 0), some (.int b), some (.int f), some (.int t), some (.int n), some (.int p), some (.long y25), none, some (.int x27), none], [])) (w1 := w) rfl rfl ?_
            exact e_ch1 R oda b f t n p ⟨by omega, by omega⟩ ⟨by omega, by omega⟩ ⟨by omega, by omega⟩ ⟨by omega, by omega⟩ ⟨by omega, by omega⟩ (by omega) J 6 y25 x27 (by omega) (by omega) (by omega) (by rw [n64_c e26t (by decide), show x27.toInt.toNat = 0 by omega]; rfl)
          · --
            refine s_l (pc1 := 56) (ls1 := [some (.ref 0), some (.int b), some (.int f), some (.int t), some (.int n), some (.int p), none, none, none, none]) (st1 := []) rfl rfl fun y29 e30 => ?_
            have e30t : y29.toInt = -1000000000000000002 := by rw [e30]; rfl
            refine aw_ret (v := some (.long y29)) rfl rfl ?_
            first
              | exact ⟨J, y29, rfl, Or.inl ⟨by omega, by omega⟩⟩
              | exact ⟨J, y29, rfl, Or.inr (Or.inl ⟨by omega, by omega, by omega⟩)⟩
      · --
        refine s_l (pc1 := 32) (ls1 := [some (.ref 0), some (.int b), some (.int f), some (.int t), some (.int n), some (.int p), none, none, none, none]) (st1 := []) rfl rfl fun y31 e32 => ?_
        have e32t : y31.toInt = -1000000000000000001 := by rw [e32]; rfl
        refine aw_ret (v := some (.long y31)) rfl rfl ?_
        first
          | exact ⟨J, y31, rfl, Or.inl ⟨by omega, by omega⟩⟩
          | exact ⟨J, y31, rfl, Or.inr (Or.inl ⟨by omega, by omega, by omega⟩)⟩
theorem e_afL {d : Nat} {w : am_W} {V : Nat → Int} (R : RCs w 3 V) (b f n : Int32) (hb : 0 ≤ b.toInt ∧ b.toInt ≤ 3) (hf : 0 ≤ f.toInt ∧ f.toInt < szV V) (hn : 0 ≤ n.toInt ∧ n.toInt ≤ 12) (szc : 1 ≤ szV V ∧ szV V ≤ 36) (J : ab_J ab_TT ab_sets ab_WR w w) : ∀ (k : Nat) (st : Int64) (i : Int32), (n.toInt - i.toInt).toNat < k → 0 ≤ i.toInt → i.toInt ≤ n.toInt → (∀ j, bt (n64 st) j = 1 ↔ (j : Int) < szV V ∧ rnV V (V (8 + 4 * b.toInt.toNat + 0)) f.toInt.toNat i.toInt.toNat j) → aw none (d + 3) 87 (fun r w1 => ab_J ab_TT ab_sets ab_WR w w1 ∧ ∃ z : Int64, r = some (.long z) ∧ aftP V b.toInt f.toInt n.toInt z.toInt) (45, [some (.ref 0), some (.int b), some (.int f), some (.int n), some (.long st), none, some (.int i)], []) w := by
  intro k
  induction k with
  | zero => intro st i p; omega
  | succ k iha =>
    intro st i p1 p2 p3 F
    refine aw_step (f1 := (47, [some (.ref 0), some (.int b), some (.int f), some (.int n), some (.long st), none, some (.int i)], [(.int i)])) (w1 := w) rfl rfl ?_
    refine aw_step (f1 := (48, [some (.ref 0), some (.int b), some (.int f), some (.int n), some (.long st), none, some (.int i)], [(.int n), (.int i)])) (w1 := w) rfl rfl ?_
    refine s_ic 77 51 rfl rfl rfl (fun (h1 : n.toInt ≤ i.toInt) => ?_) (fun (h1 : ¬ (n.toInt ≤ i.toInt)) => ?_)
    · --
      refine aw_step (f1 := (79, [some (.ref 0), some (.int b), some (.int f), some (.int n), some (.long st), none, some (.int i)], [(.long st)])) (w1 := w) rfl rfl ?_
      refine aw_ret (v := some (.long st)) rfl rfl ?_
      have s36 : n64 st < 2 ^ 36 := bt_lt fun j hj => by have := ((F j).mp hj).1; omega
      rw [show i.toInt.toNat = n.toInt.toNat by omega] at F
      exact ⟨J, st, rfl, Or.inr (Or.inr ⟨⟨by omega, by omega⟩, ⟨by omega, by omega⟩, n64 st, n64_toInt (by omega), F⟩)⟩
    · --
      refine aw_step (f1 := (52, [some (.ref 0), some (.int b), some (.int f), some (.int n), some (.long st), none, some (.int i)], [(.ref 0)])) (w1 := w) rfl rfl ?_
      refine s_gr 3 J 55 rfl rfl rfl rfl rfl rfl ?_
      refine aw_step (f1 := (56, [some (.ref 0), some (.int b), some (.int f), some (.int n), some (.long st), none, some (.int i)], [(.ref 0), (.ref 3)])) (w1 := w) rfl rfl ?_
      refine s_gr 3 J 59 rfl rfl rfl rfl rfl rfl ?_
      refine s_gr 7 J 62 rfl rfl rfl rfl rfl rfl ?_
      refine aw_step (f1 := (63, [some (.ref 0), some (.int b), some (.int f), some (.int n), some (.long st), none, some (.int i)], [(.int b), (.ref 7), (.ref 3)])) (w1 := w) rfl rfl ?_
      refine s_ia J 64 rfl rfl rfl rfl (by omega) (by omega) fun x2 x2a x2b x2f => ?_
      have x2v : x2.toInt = rI w 7 b.toInt.toNat := by rw [← rI_of x2f]
      have hlg : x2.toInt = V (8 + 4 * b.toInt.toNat + 0) := by rw [x2v]; exact R.rv (r := 4) (i := b.toInt.toNat) (by decide) (by decide) (by omega) (by show b.toInt.toNat < 4; omega)
      refine aw_step (f1 := (66, [some (.ref 0), some (.int b), some (.int f), some (.int n), some (.long st), none, some (.int i)], [(.long st), (.int x2), (.ref 3)])) (w1 := w) rfl rfl ?_
      refine s_cv (z := 45) (p := 3) (as := [(.int x2), (.long st)]) (st1 := []) J 69 rfl rfl rfl rfl rfl rfl rfl rfl (Nat.le_of_ble_eq_true rfl) (Nat.le_of_ble_eq_true rfl) (e_reachFromAll R x2 st ⟨by omega, by omega⟩ J.1) ?_
      rintro _ _ ⟨rfl, y3, rfl, y3t⟩
      refine ⟨rfl, ?_⟩
      show aw none _ 87 _ (69, [some (.ref 0), some (.int b), some (.int f), some (.int n), some (.long st), none, some (.int i)], [(.long y3)]) w
      refine aw_step (f1 := (71, [some (.ref 0), some (.int b), some (.int f), some (.int n), some (.long y3), none, some (.int i)], [])) (w1 := w) rfl rfl ?_
      refine aw_step (f1 := (74, [some (.ref 0), some (.int b), some (.int f), some (.int n), some (.long y3), none, some (.int (i + Int32.ofInt 1))], [])) (w1 := w) rfl rfl ?_
      obtain ⟨x4, x4e⟩ : ∃ z, z = (i + Int32.ofInt 1) := ⟨_, rfl⟩
      have x4t : x4.toInt = i.toInt + (1) := by rw [x4e]; exact n_add (y := Int32.ofInt (1)) (by show _ ≤ _ + (1 : Int); omega) (by show _ + (1 : Int) ≤ _; omega)
      rw [← x4e]
      refine aw_step (f1 := (45, [some (.ref 0), some (.int b), some (.int f), some (.int n), some (.long y3), none, some (.int x4)], [])) (w1 := w) rfl rfl ?_
      refine iha y3 x4 (by omega) (by omega) (by omega) (fun j => ?_)
      rw [show x4.toInt.toNat = i.toInt.toNat + 1 by omega]
      have yt := y3t
      rw [hlg] at yt
      exact (yt j).trans ⟨fun ⟨c, c1, c2, c3⟩ => ⟨c3.1.1, c, c1, ((F c).mp c2).2, c3⟩, fun ⟨_, c, c1, c2, c3⟩ => ⟨c, c1, (F c).mpr ⟨c1, c2⟩, c3⟩⟩
theorem e_after {d : Nat} {w : am_W} {V : Nat → Int} (R : RCs w 3 V) (b f n : Int32) (I : ab_inv ab_TT ab_sets w) : aw none (d + 3) 87 (fun r w1 => ab_J ab_TT ab_sets ab_WR w w1 ∧ ∃ z : Int64, r = some (.long z) ∧ aftP V b.toInt f.toInt n.toInt z.toInt) (0, am_entry 87 [.ref 0, .int b, .int f, .int n], []) w := by
  have J : ab_J ab_TT ab_sets ab_WR w w := ⟨I, ab_fr.rf⟩
  have szc := szC_in I
  have hsz := R.sz
  show aw none (d + 3) 87 _ (0, [some (.ref 0), some (.int b), some (.int f), some (.int n), none, none, none], []) w
  refine aw_step (f1 := (1, [some (.ref 0), some (.int b), some (.int f), some (.int n), none, none, none], [(.int b)])) (w1 := w) rfl rfl ?_
  refine s_cs (z := 103) (as := [(.int b)]) (st1 := []) 4 rfl rfl rfl rfl rfl rfl (Nat.le_of_ble_eq_true rfl) (Nat.le_of_ble_eq_true rfl) (Nat.le_of_ble_eq_true rfl) (q_isBoots b) ?_
  rintro _ _ ⟨rfl, x1, rfl, x1t⟩
  refine ⟨rfl, ?_⟩
  show aw none _ 87 _ (4, [some (.ref 0), some (.int b), some (.int f), some (.int n), none, none, none], [(.int x1)]) w
  refine s_if 18 7 rfl rfl rfl (fun (h2 : x1.toInt = 0) => ?_) (fun (h2 : ¬ (x1.toInt = 0)) => ?_)
  · --
    refine s_l (pc1 := 21) (ls1 := [some (.ref 0), some (.int b), some (.int f), some (.int n), none, none, none]) (st1 := []) rfl rfl fun y3 e4 => ?_
    have e4t : y3.toInt = -1000000000000000001 := by rw [e4]; rfl
    refine aw_ret (v := some (.long y3)) rfl rfl ?_
    first
      | exact ⟨J, y3, rfl, Or.inl ⟨by omega, by omega⟩⟩
      | exact ⟨J, y3, rfl, Or.inr (Or.inl ⟨by omega, by omega, by omega⟩)⟩
  · --
    refine aw_step (f1 := (8, [some (.ref 0), some (.int b), some (.int f), some (.int n), none, none, none], [(.ref 0)])) (w1 := w) rfl rfl ?_
    refine s_gr 3 J 11 rfl rfl rfl rfl rfl rfl ?_
    refine aw_step (f1 := (12, [some (.ref 0), some (.int b), some (.int f), some (.int n), none, none, none], [(.int f), (.ref 3)])) (w1 := w) rfl rfl ?_
    refine s_cv (z := 39) (p := 3) (as := [(.int f)]) (st1 := []) J 15 rfl rfl rfl rfl rfl rfl rfl rfl (Nat.le_of_ble_eq_true rfl) (Nat.le_of_ble_eq_true rfl) (q_hasCell f J.1) ?_
    rintro _ _ ⟨rfl, x5, rfl, x5t⟩
    refine ⟨rfl, ?_⟩
    show aw none _ 87 _ (15, [some (.ref 0), some (.int b), some (.int f), some (.int n), none, none, none], [(.int x5)]) w
    refine s_if 22 18 rfl rfl rfl (fun (h6 : ¬ x5.toInt = 0) => ?_) (fun (h6 : ¬ (¬ x5.toInt = 0)) => ?_)
    · --
      refine aw_step (f1 := (23, [some (.ref 0), some (.int b), some (.int f), some (.int n), none, none, none], [(.int n)])) (w1 := w) rfl rfl ?_
      refine s_i (pc1 := 24) (ls1 := [some (.ref 0), some (.int b), some (.int f), some (.int n), none, none, none]) (st1 := [(.int n)]) rfl rfl fun x7 e8 => ?_
      have e8t : x7.toInt = 0 := by rw [e8]; rfl
      refine s_i (pc1 := 26) (ls1 := [some (.ref 0), some (.int b), some (.int f), some (.int n), none, none, none]) (st1 := [(.int x7), (.int n)]) rfl rfl fun x9 e10 => ?_
      have e10t : x9.toInt = 12 := by rw [e10]; rfl
      refine s_cs (z := 102) (as := [(.int n), (.int x7), (.int x9)]) (st1 := []) 29 rfl rfl rfl rfl rfl rfl (Nat.le_of_ble_eq_true rfl) (Nat.le_of_ble_eq_true rfl) (Nat.le_of_ble_eq_true rfl) (q_within n x7 x9) ?_
      rintro _ _ ⟨rfl, x11, rfl, x11t⟩
      refine ⟨rfl, ?_⟩
      show aw none _ 87 _ (29, [some (.ref 0), some (.int b), some (.int f), some (.int n), none, none, none], [(.int x11)]) w
      refine s_if 36 32 rfl rfl rfl (fun (h12 : ¬ x11.toInt = 0) => ?_) (fun (h12 : ¬ (¬ x11.toInt = 0)) => ?_)
      · --
        refine aw_step (f1 := (37, [some (.ref 0), some (.int b), some (.int f), some (.int n), none, none, none], [(.int f)])) (w1 := w) rfl rfl ?_
        refine s_cs (z := 104) (as := [(.int f)]) (st1 := []) 40 rfl rfl rfl rfl rfl rfl (Nat.le_of_ble_eq_true rfl) (Nat.le_of_ble_eq_true rfl) (Nat.le_of_ble_eq_true rfl) (q_bit f) ?_
        rintro _ _ ⟨rfl, y13, rfl, y13e⟩
        refine ⟨rfl, ?_⟩
        show aw none _ 87 _ (40, [some (.ref 0), some (.int b), some (.int f), some (.int n), none, none, none], [(.long y13)]) w
        have y13b : n64 y13 = 2 ^ f.toInt.toNat := by rw [y13e]; exact n64_shl (by omega) (by omega) rfl
        refine aw_step (f1 := (42, [some (.ref 0), some (.int b), some (.int f), some (.int n), some (.long y13), none, none], [])) (w1 := w) rfl rfl ?_
        refine s_i (pc1 := 43) (ls1 := [some (.ref 0), some (.int b), some (.int f), some (.int n), some (.long y13), none, none]) (st1 := []) rfl rfl fun x14 e15 => ?_
        have e15t : x14.toInt = 0 := by rw [e15]; rfl
        refine aw_step (f1 := (45, [some (.ref 0), some (.int b), some (.int f), some (.int n), some (.long y13), none, some (.int x14)], [])) (w1 := w) rfl rfl ?_
        refine e_afL R b f n ⟨by omega, by omega⟩ ⟨by omega, by omega⟩ ⟨by omega, by omega⟩ (by omega) J 13 y13 x14 (by omega) (by omega) (by omega) (fun j => ?_)
        rw [show x14.toInt.toNat = 0 by omega, y13b, bt_pow]
        show _ ↔ _ ∧ j = f.toInt.toNat
        by_cases q : f.toInt.toNat = j
        · rw [if_pos q]; exact ⟨fun _ => ⟨by omega, q.symm⟩, fun _ => rfl⟩
        · rw [if_neg q]; exact ⟨fun u => absurd u (by decide), fun u => absurd u.2.symm q⟩
      · --
        refine s_l (pc1 := 35) (ls1 := [some (.ref 0), some (.int b), some (.int f), some (.int n), none, none, none]) (st1 := []) rfl rfl fun y16 e17 => ?_
        have e17t : y16.toInt = -1000000000000000002 := by rw [e17]; rfl
        refine aw_ret (v := some (.long y16)) rfl rfl ?_
        first
          | exact ⟨J, y16, rfl, Or.inl ⟨by omega, by omega⟩⟩
          | exact ⟨J, y16, rfl, Or.inr (Or.inl ⟨by omega, by omega, by omega⟩)⟩
    · --
      refine s_l (pc1 := 21) (ls1 := [some (.ref 0), some (.int b), some (.int f), some (.int n), none, none, none]) (st1 := []) rfl rfl fun y18 e19 => ?_
      have e19t : y18.toInt = -1000000000000000001 := by rw [e19]; rfl
      refine aw_ret (v := some (.long y18)) rfl rfl ?_
      first
        | exact ⟨J, y18, rfl, Or.inl ⟨by omega, by omega⟩⟩
        | exact ⟨J, y18, rfl, Or.inr (Or.inl ⟨by omega, by omega, by omega⟩)⟩
