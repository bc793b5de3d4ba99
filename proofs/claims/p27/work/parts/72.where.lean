/-! ===== where ===== -/
/-- the first i sights fit -/
noncomputable def fitI (V : Nat → Int) (i : Int) (x : Nat) : Prop := ∀ j : Nat, bt x j = 1 ↔ ((j : Int) < szV V ∧ V (40 + j) ≠ 126) ∧ ∀ k : Nat, (k : Int) < i → sqM (V 1) j (V (24 + 2 * k + 0)) = V (24 + 2 * k + 1)
theorem fitI.st {V : Nat → Int} {i : Int} {x y x' : Nat} (h : fitI V i x) (h0 : 0 ≤ i) (l : lsV V (V (24 + 2 * i.toNat + 1)) (V (24 + 2 * i.toNat + 0)) y) (e : x' = x &&& y) : fitI V (i + 1) x' := by
  intro j
  have hj := h j
  have lj := l j
  have l1 := bt_le x j
  have l2 := bt_le y j
  rw [e, bt_and]
  constructor
  · intro z
    have a := hj.mp (by omega)
    have b := lj.mp (by omega)
    refine ⟨a.1, fun k hk => ?_⟩
    by_cases q : k = i.toNat
    · rw [q]; exact b.2
    · exact a.2 k (by omega)
  · intro z
    have a := hj.mpr ⟨z.1, fun k hk => z.2 k (by omega)⟩
    have b := lj.mpr ⟨z.1, z.2 i.toNat (by omega)⟩
    omega
theorem fitI.lt {V : Nat → Int} {i : Int} {x : Nat} (h : fitI V i x) (hz : szV V ≤ 36) : x < 2 ^ 36 := bt_lt fun j hj => by have := ((h j).mp hj).1.1; omega
noncomputable def wherP (V : Nat → Int) (z : Int) : Prop := ∃ x : Nat, fitI V (V 7) x ∧ z = (x : Int)
theorem U_where {V : Nat → Int} {z z2 : Int} (h : wherP V z) (g : wherP V z2) : z2 = z := by
  obtain ⟨x, h1, h2⟩ := h
  obtain ⟨y, g1, g2⟩ := g
  rw [h2, g2, bt_un g1 h1]
noncomputable def mkV (V : Nat → Int) : Prop := ∀ i : Nat, (i : Int) < V 7 → 0 ≤ V (24 + 2 * i + 0) ∧ V (24 + 2 * i + 0) < szV V
theorem e_whL {d : Nat} {w : am_W} {V : Nat → Int} (R : RCs w 3 V) (mv : mkV V) (I : ab_inv ab_TT ab_sets w) (J : ab_J ab_TT ab_sets ab_WR2 w w) : ∀ (m : Nat) (y : Int64) (i : Int32), (V 7 - i.toInt).toNat < m → 0 ≤ i.toInt → i.toInt ≤ V 7 → fitI V i.toInt (n64 y) → aw none (d + 4) 47 (fun r w1 => w = w1 ∧ ∃ z : Int64, r = some (.long z) ∧ wherP V z.toInt) (7, [some (.ref 3), some (.long y), none, some (.int i)], []) w := by
  have szc := szC_in I
  have hsz := R.sz
  have r7 := R.f4
  have b7 := fI_in (p := 3) (k := 4) I rfl rfl
  intro m
  induction m with
  | zero => intro y i p; omega
  | succ m ih =>
    intro y i p1 p2 p3 F
    refine aw_step (f1 := (8, [some (.ref 3), some (.long y), none, some (.int i)], [(.int i)])) (w1 := w) rfl rfl ?_
    refine aw_step (f1 := (9, [some (.ref 3), some (.long y), none, some (.int i)], [(.ref 3), (.int i)])) (w1 := w) rfl rfl ?_
    refine s_gi J 12 rfl rfl rfl rfl rfl rfl fun x1 x1a x1b x1f => ?_
    have x1v : x1.toInt = fI w 3 4 := by rw [← fI_of x1f]
    refine s_ic 40 15 rfl rfl rfl (fun (h2 : x1.toInt ≤ i.toInt) => ?_) (fun (h2 : ¬ (x1.toInt ≤ i.toInt)) => ?_)
    · --
      refine aw_step (f1 := (41, [some (.ref 3), some (.long y), none, some (.int i)], [(.long y)])) (w1 := w) rfl rfl ?_
      refine aw_ret (v := some (.long y)) rfl rfl ?_
      rw [show i.toInt = V 7 by omega] at F
      exact ⟨rfl, y, rfl, n64 y, F, l_36 (F.lt (by omega))⟩
    · --
      refine aw_step (f1 := (16, [some (.ref 3), some (.long y), none, some (.int i)], [(.long y)])) (w1 := w) rfl rfl ?_
      refine aw_step (f1 := (17, [some (.ref 3), some (.long y), none, some (.int i)], [(.ref 3), (.long y)])) (w1 := w) rfl rfl ?_
      refine aw_step (f1 := (18, [some (.ref 3), some (.long y), none, some (.int i)], [(.ref 3), (.ref 3), (.long y)])) (w1 := w) rfl rfl ?_
      refine s_gr 13 J 21 rfl rfl rfl rfl rfl rfl ?_
      refine aw_step (f1 := (22, [some (.ref 3), some (.long y), none, some (.int i)], [(.int i), (.ref 13), (.ref 3), (.long y)])) (w1 := w) rfl rfl ?_
      refine s_ia J 23 rfl rfl rfl rfl (by omega) (by omega) fun x3 x3a x3b x3f => ?_
      have x3v : x3.toInt = rI w 13 i.toInt.toNat := by rw [← rI_of x3f]
      refine aw_step (f1 := (24, [some (.ref 3), some (.long y), none, some (.int i)], [(.ref 3), (.int x3), (.ref 3), (.long y)])) (w1 := w) rfl rfl ?_
      refine s_gr 12 J 27 rfl rfl rfl rfl rfl rfl ?_
      refine aw_step (f1 := (28, [some (.ref 3), some (.long y), none, some (.int i)], [(.int i), (.ref 12), (.int x3), (.ref 3), (.long y)])) (w1 := w) rfl rfl ?_
      refine s_ia J 29 rfl rfl rfl rfl (by omega) (by omega) fun x4 x4a x4b x4f => ?_
      have x4v : x4.toInt = rI w 12 i.toInt.toNat := by rw [← rI_of x4f]
      have hsq : x3.toInt = V (24 + 2 * i.toInt.toNat + 1) := by rw [x3v]; exact R.rv (r := 10) (i := i.toInt.toNat) (by decide) (by decide) (by omega) (by show i.toInt.toNat < 8; omega)
      have hmk : x4.toInt = V (24 + 2 * i.toInt.toNat + 0) := by rw [x4v]; exact R.rv (r := 9) (i := i.toInt.toNat) (by decide) (by decide) (by omega) (by show i.toInt.toNat < 8; omega)
      have mg := mv i.toInt.toNat (by omega)
      refine s_cv (z := 44) (p := 3) (as := [(.int x3), (.int x4)]) (st1 := [(.long y)]) J 32 rfl rfl rfl rfl rfl rfl rfl rfl (Nat.le_of_ble_eq_true rfl) (Nat.le_of_ble_eq_true rfl) (e_reach R x3 x4 ⟨by omega, by omega⟩ ⟨by omega, by omega⟩ J.1) ?_
      rintro _ _ ⟨rfl, y5, rfl, y5t⟩
      refine ⟨rfl, ?_⟩
      show aw none _ 47 _ (32, [some (.ref 3), some (.long y), none, some (.int i)], [(.long y5), (.long y)]) w
      --
      refine s_l (pc1 := 33) (ls1 := [some (.ref 3), some (.long y), none, some (.int i)]) (st1 := []) rfl rfl fun y6 e7 => ?_
      have e7 : y6 = y &&& y5 := e7
      refine aw_step (f1 := (34, [some (.ref 3), some (.long y6), none, some (.int i)], [])) (w1 := w) rfl rfl ?_
      refine aw_step (f1 := (37, [some (.ref 3), some (.long y6), none, some (.int (i + Int32.ofInt 1))], [])) (w1 := w) rfl rfl ?_
      obtain ⟨x8, x8e⟩ : ∃ z, z = (i + Int32.ofInt 1) := ⟨_, rfl⟩
      have x8t : x8.toInt = i.toInt + (1) := by rw [x8e]; exact n_add (y := Int32.ofInt (1)) (by show _ ≤ _ + (1 : Int); omega) (by show _ + (1 : Int) ≤ _; omega)
      rw [← x8e]
      refine aw_step (f1 := (7, [some (.ref 3), some (.long y6), none, some (.int x8)], [])) (w1 := w) rfl rfl ?_
      have ls : lsV V (V (24 + 2 * i.toInt.toNat + 1)) (V (24 + 2 * i.toInt.toNat + 0)) (n64 y5) := by
        have q := y5t
        rw [hsq, hmk] at q
        exact q
      exact ih y6 x8 (by omega) (by omega) (by omega) (by rw [show x8.toInt = i.toInt + 1 by omega]; exact F.st (by omega) ls (by rw [e7, n64_and]))
theorem e_fitting {d : Nat} {w : am_W} {V : Nat → Int} (R : RCs w 3 V) (mv : mkV V) (I : ab_inv ab_TT ab_sets w) : aw none (d + 4) 47 (fun r w1 => w = w1 ∧ ∃ z : Int64, r = some (.long z) ∧ wherP V z.toInt) (0, am_entry 47 [.ref 3], []) w := by
  have J : ab_J ab_TT ab_sets ab_WR2 w w := ⟨I, ab_fr.rf⟩
  have szc := szC_in I
  have hsz := R.sz
  have r7 := R.f4
  have b7 := fI_in (p := 3) (k := 4) I rfl rfl
  show aw none (d + 4) 47 _ (0, [some (.ref 3), none, none, none], []) w
  refine aw_step (f1 := (1, [some (.ref 3), none, none, none], [(.ref 3)])) (w1 := w) rfl rfl ?_
  refine s_gl J 4 rfl rfl rfl rfl rfl rfl fun y1 y1a y1b y1f => ?_
  refine aw_step (f1 := (5, [some (.ref 3), some (.long y1), none, none], [])) (w1 := w) rfl rfl ?_
  refine s_i (pc1 := 6) (ls1 := [some (.ref 3), some (.long y1), none, none]) (st1 := []) rfl rfl fun x2 e3 => ?_
  have e3t : x2.toInt = 0 := by rw [e3]; rfl
  refine aw_step (f1 := (7, [some (.ref 3), some (.long y1), none, some (.int x2)], [])) (w1 := w) rfl rfl ?_
  have hd := R.2.2
  rw [fL_of y1f] at hd
  exact e_whL R mv I J 9 y1 x2 (by omega) (by omega) (by omega) (fun j => (hd j).trans ⟨fun q => ⟨q, fun k hk => by omega⟩, fun q => q.1⟩)
theorem f_whL {d : Nat} {w : am_W} {V : Nat → Int} (R : RMs w V) (mv : mkV V) (I : ab_inv ab_TT ab_sets w) (J : ab_J ab_TT ab_sets ab_WR2 w w) : ∀ (m : Nat) (y : Int64) (i : Int32), (V 7 - i.toInt).toNat < m → 0 ≤ i.toInt → i.toInt ≤ V 7 → fitI V i.toInt (n64 y) → aw none (d + 4) 163 (fun r w1 => w = w1 ∧ ∃ z : Int64, r = some (.long z) ∧ wherP V z.toInt) (7, [some (.ref 65), some (.long y), none, some (.int i)], []) w := by
  have szc := szM_in I
  have hsz := R.sz
  have r7 := R.f7
  have b7 := fI_in (p := 65) (k := 14) I rfl rfl
  intro m
  induction m with
  | zero => intro y i p; omega
  | succ m ih =>
    intro y i p1 p2 p3 F
    refine aw_step (f1 := (8, [some (.ref 65), some (.long y), none, some (.int i)], [(.int i)])) (w1 := w) rfl rfl ?_
    refine aw_step (f1 := (9, [some (.ref 65), some (.long y), none, some (.int i)], [(.ref 65), (.int i)])) (w1 := w) rfl rfl ?_
    refine s_gi J 12 rfl rfl rfl rfl rfl rfl fun x1 x1a x1b x1f => ?_
    have x1v : x1.toInt = fI w 65 14 := by rw [← fI_of x1f]
    refine s_ic 40 15 rfl rfl rfl (fun (h2 : x1.toInt ≤ i.toInt) => ?_) (fun (h2 : ¬ (x1.toInt ≤ i.toInt)) => ?_)
    · --
      refine aw_step (f1 := (41, [some (.ref 65), some (.long y), none, some (.int i)], [(.long y)])) (w1 := w) rfl rfl ?_
      refine aw_ret (v := some (.long y)) rfl rfl ?_
      rw [show i.toInt = V 7 by omega] at F
      exact ⟨rfl, y, rfl, n64 y, F, l_36 (F.lt (by omega))⟩
    · --
      refine aw_step (f1 := (16, [some (.ref 65), some (.long y), none, some (.int i)], [(.long y)])) (w1 := w) rfl rfl ?_
      refine aw_step (f1 := (17, [some (.ref 65), some (.long y), none, some (.int i)], [(.ref 65), (.long y)])) (w1 := w) rfl rfl ?_
      refine aw_step (f1 := (18, [some (.ref 65), some (.long y), none, some (.int i)], [(.ref 65), (.ref 65), (.long y)])) (w1 := w) rfl rfl ?_
      refine s_gr 72 J 21 rfl rfl rfl rfl rfl rfl ?_
      refine aw_step (f1 := (22, [some (.ref 65), some (.long y), none, some (.int i)], [(.int i), (.ref 72), (.ref 65), (.long y)])) (w1 := w) rfl rfl ?_
      refine s_ia J 23 rfl rfl rfl rfl (by omega) (by omega) fun x3 x3a x3b x3f => ?_
      have x3v : x3.toInt = rI w 72 i.toInt.toNat := by rw [← rI_of x3f]
      refine aw_step (f1 := (24, [some (.ref 65), some (.long y), none, some (.int i)], [(.ref 65), (.int x3), (.ref 65), (.long y)])) (w1 := w) rfl rfl ?_
      refine s_gr 71 J 27 rfl rfl rfl rfl rfl rfl ?_
      refine aw_step (f1 := (28, [some (.ref 65), some (.long y), none, some (.int i)], [(.int i), (.ref 71), (.int x3), (.ref 65), (.long y)])) (w1 := w) rfl rfl ?_
      refine s_ia J 29 rfl rfl rfl rfl (by omega) (by omega) fun x4 x4a x4b x4f => ?_
      have x4v : x4.toInt = rI w 71 i.toInt.toNat := by rw [← rI_of x4f]
      have hsq : x3.toInt = V (24 + 2 * i.toInt.toNat + 1) := by rw [x3v]; exact R.rb (i := i.toInt.toNat) (c := 1) (by omega) (by decide)
      have hmk : x4.toInt = V (24 + 2 * i.toInt.toNat + 0) := by rw [x4v]; exact R.rb (i := i.toInt.toNat) (c := 0) (by omega) (by decide)
      have mg := mv i.toInt.toNat (by omega)
      refine s_cv (z := 131) (p := 65) (as := [(.int x3), (.int x4)]) (st1 := [(.long y)]) J 32 rfl rfl rfl rfl rfl rfl rfl rfl (Nat.le_of_ble_eq_true rfl) (Nat.le_of_ble_eq_true rfl) (q_leadsBy x3 x4 ⟨by omega, by omega⟩ J.1) ?_
      rintro _ _ ⟨rfl, y5, rfl, y5a, y5t⟩
      refine ⟨rfl, ?_⟩
      show aw none _ 163 _ (32, [some (.ref 65), some (.long y), none, some (.int i)], [(.long y5), (.long y)]) w
      --
      refine s_l (pc1 := 33) (ls1 := [some (.ref 65), some (.long y), none, some (.int i)]) (st1 := []) rfl rfl fun y6 e7 => ?_
      have e7 : y6 = y &&& y5 := e7
      refine aw_step (f1 := (34, [some (.ref 65), some (.long y6), none, some (.int i)], [])) (w1 := w) rfl rfl ?_
      refine aw_step (f1 := (37, [some (.ref 65), some (.long y6), none, some (.int (i + Int32.ofInt 1))], [])) (w1 := w) rfl rfl ?_
      obtain ⟨x8, x8e⟩ : ∃ z, z = (i + Int32.ofInt 1) := ⟨_, rfl⟩
      have x8t : x8.toInt = i.toInt + (1) := by rw [x8e]; exact n_add (y := Int32.ofInt (1)) (by show _ ≤ _ + (1 : Int); omega) (by show _ + (1 : Int) ≤ _; omega)
      rw [← x8e]
      refine aw_step (f1 := (7, [some (.ref 65), some (.long y6), none, some (.int x8)], [])) (w1 := w) rfl rfl ?_
      have ls : lsV V (V (24 + 2 * i.toInt.toNat + 1)) (V (24 + 2 * i.toInt.toNat + 0)) (n64 y5) := by
        have q := ldsM_V R (by omega) y5t
        rw [hsq, hmk] at q
        exact q
      exact ih y6 x8 (by omega) (by omega) (by omega) (by rw [show x8.toInt = i.toInt + 1 by omega]; exact F.st (by omega) ls (by rw [e7, n64_and]))
theorem f_where {d : Nat} {w : am_W} {V : Nat → Int} (R : RMs w V) (mv : mkV V) (I : ab_inv ab_TT ab_sets w) : aw none (d + 4) 163 (fun r w1 => w = w1 ∧ ∃ z : Int64, r = some (.long z) ∧ wherP V z.toInt) (0, am_entry 163 [.ref 65], []) w := by
  have J : ab_J ab_TT ab_sets ab_WR2 w w := ⟨I, ab_fr.rf⟩
  have szc := szM_in I
  have hsz := R.sz
  have r7 := R.f7
  have b7 := fI_in (p := 65) (k := 14) I rfl rfl
  show aw none (d + 4) 163 _ (0, [some (.ref 65), none, none, none], []) w
  refine aw_step (f1 := (1, [some (.ref 65), none, none, none], [(.ref 65)])) (w1 := w) rfl rfl ?_
  refine s_cv (z := 117) (p := 65) (as := []) (st1 := []) J 4 rfl rfl rfl rfl rfl rfl rfl rfl (Nat.le_of_ble_eq_true rfl) (Nat.le_of_ble_eq_true rfl) (f_allLand J.1) ?_
  rintro _ _ ⟨rfl, y1, rfl, y1t⟩
  refine ⟨rfl, ?_⟩
  show aw none _ 163 _ (4, [some (.ref 65), none, none, none], [(.long y1)]) w
  refine aw_step (f1 := (5, [some (.ref 65), some (.long y1), none, none], [])) (w1 := w) rfl rfl ?_
  refine s_i (pc1 := 6) (ls1 := [some (.ref 65), some (.long y1), none, none]) (st1 := []) rfl rfl fun x2 e3 => ?_
  have e3t : x2.toInt = 0 := by rw [e3]; rfl
  refine aw_step (f1 := (7, [some (.ref 65), some (.long y1), none, some (.int x2)], [])) (w1 := w) rfl rfl ?_
  refine f_whL R mv I J 9 y1 x2 (by omega) (by omega) (by omega) (fun j => ?_)
  rw [y1t j]
  unfold ldM
  rw [R.sz]
  constructor
  · intro q
    have q3 := q.2.2
    rw [R.rc (i := ((j : Nat) : Int).toNat) (by omega), show ((j : Nat) : Int).toNat = j by omega] at q3
    exact ⟨⟨q.2.1, q3⟩, fun k hk => by omega⟩
  · intro q
    refine ⟨by omega, q.1.1, ?_⟩
    rw [R.rc (i := ((j : Nat) : Int).toNat) (by omega), show ((j : Nat) : Int).toNat = j by omega]
    exact q.1.2
theorem e_where {d : Nat} {w : am_W} {V : Nat → Int} (R : RCs w 3 V) (mv : mkV V) (I : ab_inv ab_TT ab_sets w) : aw none (d + 5) 85 (fun r w1 => w = w1 ∧ ∃ z : Int64, r = some (.long z) ∧ wherP V z.toInt) (0, am_entry 85 [.ref 0], []) w := by
  have J : ab_J ab_TT ab_sets ab_WR2 w w := ⟨I, ab_fr.rf⟩
  show aw none (d + 5) 85 _ (0, [some (.ref 0)], []) w
  refine aw_step (f1 := (1, [some (.ref 0)], [(.ref 0)])) (w1 := w) rfl rfl ?_
  refine s_gr 3 J 4 rfl rfl rfl rfl rfl rfl ?_
  refine s_cv (z := 47) (p := 3) (as := []) (st1 := []) J 7 rfl rfl rfl rfl rfl rfl rfl rfl (Nat.le_of_ble_eq_true rfl) (Nat.le_of_ble_eq_true rfl) (e_fitting R mv J.1) ?_
  rintro _ _ ⟨rfl, y1, rfl, y1t⟩
  refine ⟨rfl, ?_⟩
  show aw none _ 85 _ (7, [some (.ref 0)], [(.long y1)]) w
  refine aw_ret (v := some (.long y1)) rfl rfl ?_
  exact ⟨rfl, y1, rfl, y1t⟩
