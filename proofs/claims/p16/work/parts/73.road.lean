/-! ===== roads ===== -/
/-- a stride leads from i to j -/
noncomputable def eV (V : Nat → Int) (L : Int) (i j : Nat) : Prop := ((j : Int) < szV V ∧ V (40 + j) ≠ 126) ∧ sqM (V 1) j i = L
/-- within n strides from f -/
noncomputable def wV (V : Nat → Int) (L : Int) (f : Nat) : Nat → Nat → Prop
  | 0, j => j = f
  | n + 1, j => wV V L f n j ∨ ∃ i, wV V L f n i ∧ eV V L i j
section WV
variable {V : Nat → Int} {L : Int} {f : Nat}
theorem wV_s {n j : Nat} (h : wV V L f n j) : wV V L f (n + 1) j := Or.inl h
theorem wV_le {n m j : Nat} (h : n ≤ m) (a : wV V L f n j) : wV V L f m j := by
  induction m with
  | zero => rw [show n = 0 by omega] at a; exact a
  | succ m ih =>
    by_cases e : n = m + 1
    · rw [← e]; exact a
    · exact Or.inl (ih (by omega))
theorem wV_sz (hf : (f : Int) < szV V) : ∀ {n j : Nat}, wV V L f n j → (j : Int) < szV V
  | 0, j, h => by have h : j = f := h; rw [h]; exact hf
  | n + 1, j, h => by
    rcases h with h | ⟨i, h1, h2⟩
    · exact wV_sz hf h
    · exact h2.1.1
theorem wV_ld (hf : (f : Int) < szV V ∧ V (40 + f) ≠ 126) : ∀ {n j : Nat}, wV V L f n j → (j : Int) < szV V ∧ V (40 + j) ≠ 126
  | 0, j, h => by have h : j = f := h; rw [h]; exact hf
  | n + 1, j, h => by
    rcases h with h | ⟨i, h1, h2⟩
    · exact wV_ld hf h
    · exact h2.1
theorem wV_fix {n : Nat} (h : ∀ j, wV V L f (n + 1) j → wV V L f n j) : ∀ {m j : Nat}, wV V L f m j → n ≤ m → wV V L f n j
  | 0, j, a, z => by rw [show n = 0 by omega]; exact a
  | m + 1, j, a, z => by
    by_cases e : n = m + 1
    · rw [e]; exact a
    · rcases a with a | ⟨i, a1, a2⟩
      · exact wV_fix h a (by omega)
      · exact h j (Or.inr ⟨i, wV_fix h a1 (by omega), a2⟩)
/-- the layer n -/
noncomputable def frV (V : Nat → Int) (L : Int) (f n j : Nat) : Prop := wV V L f n j ∧ (n = 0 ∨ ¬ wV V L f (n - 1) j)
theorem frV_nx {n j : Nat} : frV V L f (n + 1) j ↔ (∃ i, frV V L f n i ∧ eV V L i j) ∧ ¬ wV V L f n j := by
  constructor
  · rintro ⟨h1, h2⟩
    have h3 : ¬ wV V L f n j := h2.resolve_left (by omega)
    refine ⟨?_, h3⟩
    rcases h1 with h1 | ⟨i, a, b⟩
    · exact absurd h1 h3
    · refine ⟨i, ⟨a, ?_⟩, b⟩
      by_cases z : n = 0
      · exact Or.inl z
      · refine Or.inr fun q => h3 ?_
        rw [show n = n - 1 + 1 by omega]
        exact Or.inr ⟨i, q, b⟩
  · rintro ⟨⟨i, a, b⟩, h3⟩
    exact ⟨Or.inr ⟨i, a.1, b⟩, Or.inr h3⟩
/-- counts of a row: so far as k strides -/
noncomputable def dcV (V : Nat → Int) (L : Int) (f k : Nat) (r : Nat → Int) : Prop := ∀ j : Nat, j < 36 → (r j = -6 ∧ ¬ wV V L f k j) ∨ ∃ d : Nat, r j = d ∧ d ≤ k ∧ frV V L f d j
end WV
theorem lsV_e {V : Nat → Int} {s : Int} {i x : Nat} (h : lsV V s i x) (j : Nat) : bt x j = 1 ↔ eV V s i j := h j
theorem e_fill19L {d : Nat} {w00 : am_W} (v m : Int32) (hm : m.toInt = 36) : ∀ (k : Nat) (w : am_W) (i : Int32), (36 - i.toInt).toNat < k → 0 ≤ i.toInt → i.toInt ≤ 36 → ab_J ab_TT ab_sets ab_WR w00 w → only [19] w00 w → (∀ j : Nat, (j : Int) < i.toInt → rI w 19 j = v.toInt) → aw none d 192 (fun r w1 => r = none ∧ ab_J ab_TT ab_sets ab_WR w00 w1 ∧ only [19] w00 w1 ∧ ∀ j : Nat, j < 36 → rI w1 19 j = v.toInt) (5, [some (.ref 19), some (.int v), some (.int i), some (.int m)], []) w := by
  have va := ab_any32 v
  unfold ab_lo32 ab_hi32 at va
  intro k
  induction k with
  | zero => intro w i p; omega
  | succ k ih =>
    intro w i p1 p2 p3 J O F
    refine aw_step (f1 := (6, [some (.ref 19), some (.int v), some (.int i), some (.int m)], [(.int i)])) (w1 := w) rfl rfl ?_
    refine aw_step (f1 := (7, [some (.ref 19), some (.int v), some (.int i), some (.int m)], [(.int m), (.int i)])) (w1 := w) rfl rfl ?_
    refine s_ic 20 10 rfl rfl rfl (fun (h1 : m.toInt ≤ i.toInt) => ?_) (fun (h1 : ¬ (m.toInt ≤ i.toInt)) => ?_)
    · --
      refine aw_ret (v := none) rfl rfl ?_
      exact ⟨rfl, J, O, fun j hj => F j (by omega)⟩
    · --
      refine aw_step (f1 := (11, [some (.ref 19), some (.int v), some (.int i), some (.int m)], [(.ref 19)])) (w1 := w) rfl rfl ?_
      refine aw_step (f1 := (12, [some (.ref 19), some (.int v), some (.int i), some (.int m)], [(.int i), (.ref 19)])) (w1 := w) rfl rfl ?_
      refine aw_step (f1 := (13, [some (.ref 19), some (.int v), some (.int i), some (.int m)], [(.int v), (.int i), (.ref 19)])) (w1 := w) rfl rfl ?_
      refine s_is J 14 rfl rfl rfl rfl (by omega) (by omega) (by omega) (by omega) fun w2 J3 w2e => ?_
      have w2f := rI_st J.1 (p := 19) (j := i.toInt.toNat) rfl (by omega) w2e
      refine aw_step (f1 := (17, [some (.ref 19), some (.int v), some (.int (i + Int32.ofInt 1)), some (.int m)], [])) (w1 := w2) rfl rfl ?_
      obtain ⟨x4, x4e⟩ : ∃ z, z = (i + Int32.ofInt 1) := ⟨_, rfl⟩
      have x4t : x4.toInt = i.toInt + (1) := by rw [x4e]; exact n_add (y := Int32.ofInt (1)) (by show _ ≤ _ + (1 : Int); omega) (by show _ + (1 : Int) ≤ _; omega)
      rw [← x4e]
      refine aw_step (f1 := (5, [some (.ref 19), some (.int v), some (.int x4), some (.int m)], [])) (w1 := w2) rfl rfl ?_
      refine ih w2 x4 (by omega) (by omega) (by omega) J3 (O.trans w2f.1) (fun j hj => ?_)
      by_cases q : j = i.toInt.toNat
      · rw [q]; exact w2f.2.1
      · rw [w2f.2.2 j q]; exact F j (by omega)
theorem e_fill19 {d : Nat} {w : am_W} (v : Int32) (I : ab_inv ab_TT ab_sets w) : aw none d 192 (fun r w1 => r = none ∧ ab_J ab_TT ab_sets ab_WR w w1 ∧ only [19] w w1 ∧ ∀ j : Nat, j < 36 → rI w1 19 j = v.toInt) (0, am_entry 192 [.ref 19, .int v], []) w := by
  have J : ab_J ab_TT ab_sets ab_WR w w := ⟨I, ab_fr.rf⟩
  show aw none d 192 _ (0, [some (.ref 19), some (.int v), none, none], []) w
  refine s_i (pc1 := 1) (ls1 := [some (.ref 19), some (.int v), none, none]) (st1 := []) rfl rfl fun x1 e2 => ?_
  have e2t : x1.toInt = 0 := by rw [e2]; rfl
  refine aw_step (f1 := (2, [some (.ref 19), some (.int v), some (.int x1), none], [])) (w1 := w) rfl rfl ?_
  refine aw_step (f1 := (3, [some (.ref 19), some (.int v), some (.int x1), none], [(.ref 19)])) (w1 := w) rfl rfl ?_
  refine s_al J 4 rfl rfl rfl rfl (by decide) fun x3 x3t => ?_
  refine aw_step (f1 := (5, [some (.ref 19), some (.int v), some (.int x1), some (.int x3)], [])) (w1 := w) rfl rfl ?_
  exact e_fill19L v x3 (by omega) 37 w x1 (by omega) (by omega) (by omega) J only.rf (fun j hj => by omega)
theorem e_fill20L {d : Nat} {w00 : am_W} (v m : Int32) (hm : m.toInt = 36) : ∀ (k : Nat) (w : am_W) (i : Int32), (36 - i.toInt).toNat < k → 0 ≤ i.toInt → i.toInt ≤ 36 → ab_J ab_TT ab_sets ab_WR w00 w → only [20] w00 w → (∀ j : Nat, (j : Int) < i.toInt → rI w 20 j = v.toInt) → aw none d 192 (fun r w1 => r = none ∧ ab_J ab_TT ab_sets ab_WR w00 w1 ∧ only [20] w00 w1 ∧ ∀ j : Nat, j < 36 → rI w1 20 j = v.toInt) (5, [some (.ref 20), some (.int v), some (.int i), some (.int m)], []) w := by
  have va := ab_any32 v
  unfold ab_lo32 ab_hi32 at va
  intro k
  induction k with
  | zero => intro w i p; omega
  | succ k ih =>
    intro w i p1 p2 p3 J O F
    refine aw_step (f1 := (6, [some (.ref 20), some (.int v), some (.int i), some (.int m)], [(.int i)])) (w1 := w) rfl rfl ?_
    refine aw_step (f1 := (7, [some (.ref 20), some (.int v), some (.int i), some (.int m)], [(.int m), (.int i)])) (w1 := w) rfl rfl ?_
    refine s_ic 20 10 rfl rfl rfl (fun (h1 : m.toInt ≤ i.toInt) => ?_) (fun (h1 : ¬ (m.toInt ≤ i.toInt)) => ?_)
    · --
      refine aw_ret (v := none) rfl rfl ?_
      exact ⟨rfl, J, O, fun j hj => F j (by omega)⟩
    · --
      refine aw_step (f1 := (11, [some (.ref 20), some (.int v), some (.int i), some (.int m)], [(.ref 20)])) (w1 := w) rfl rfl ?_
      refine aw_step (f1 := (12, [some (.ref 20), some (.int v), some (.int i), some (.int m)], [(.int i), (.ref 20)])) (w1 := w) rfl rfl ?_
      refine aw_step (f1 := (13, [some (.ref 20), some (.int v), some (.int i), some (.int m)], [(.int v), (.int i), (.ref 20)])) (w1 := w) rfl rfl ?_
      refine s_is J 14 rfl rfl rfl rfl (by omega) (by omega) (by omega) (by omega) fun w2 J3 w2e => ?_
      have w2f := rI_st J.1 (p := 20) (j := i.toInt.toNat) rfl (by omega) w2e
      refine aw_step (f1 := (17, [some (.ref 20), some (.int v), some (.int (i + Int32.ofInt 1)), some (.int m)], [])) (w1 := w2) rfl rfl ?_
      obtain ⟨x4, x4e⟩ : ∃ z, z = (i + Int32.ofInt 1) := ⟨_, rfl⟩
      have x4t : x4.toInt = i.toInt + (1) := by rw [x4e]; exact n_add (y := Int32.ofInt (1)) (by show _ ≤ _ + (1 : Int); omega) (by show _ + (1 : Int) ≤ _; omega)
      rw [← x4e]
      refine aw_step (f1 := (5, [some (.ref 20), some (.int v), some (.int x4), some (.int m)], [])) (w1 := w2) rfl rfl ?_
      refine ih w2 x4 (by omega) (by omega) (by omega) J3 (O.trans w2f.1) (fun j hj => ?_)
      by_cases q : j = i.toInt.toNat
      · rw [q]; exact w2f.2.1
      · rw [w2f.2.2 j q]; exact F j (by omega)
theorem e_fill20 {d : Nat} {w : am_W} (v : Int32) (I : ab_inv ab_TT ab_sets w) : aw none d 192 (fun r w1 => r = none ∧ ab_J ab_TT ab_sets ab_WR w w1 ∧ only [20] w w1 ∧ ∀ j : Nat, j < 36 → rI w1 20 j = v.toInt) (0, am_entry 192 [.ref 20, .int v], []) w := by
  have J : ab_J ab_TT ab_sets ab_WR w w := ⟨I, ab_fr.rf⟩
  show aw none d 192 _ (0, [some (.ref 20), some (.int v), none, none], []) w
  refine s_i (pc1 := 1) (ls1 := [some (.ref 20), some (.int v), none, none]) (st1 := []) rfl rfl fun x1 e2 => ?_
  have e2t : x1.toInt = 0 := by rw [e2]; rfl
  refine aw_step (f1 := (2, [some (.ref 20), some (.int v), some (.int x1), none], [])) (w1 := w) rfl rfl ?_
  refine aw_step (f1 := (3, [some (.ref 20), some (.int v), some (.int x1), none], [(.ref 20)])) (w1 := w) rfl rfl ?_
  refine s_al J 4 rfl rfl rfl rfl (by decide) fun x3 x3t => ?_
  refine aw_step (f1 := (5, [some (.ref 20), some (.int v), some (.int x1), some (.int x3)], [])) (w1 := w) rfl rfl ?_
  exact e_fill20L v x3 (by omega) 37 w x1 (by omega) (by omega) (by omega) J only.rf (fun j hj => by omega)
noncomputable def raI (V : Nat → Int) (s : Int) (fr : Nat) (i : Int) (y : Nat) : Prop := ∀ j : Nat, bt y j = 1 ↔ ∃ b : Nat, (b : Int) < i ∧ bt fr b = 1 ∧ eV V s b j
theorem raI.no {V : Nat → Int} {s i : Int} {fr y : Nat} (h : raI V s fr i y) (h0 : 0 ≤ i) (q : bt fr i.toNat ≠ 1) : raI V s fr (i + 1) y := fun j => (h j).trans ⟨fun ⟨b, a, c, d⟩ => ⟨b, by omega, c, d⟩, fun ⟨b, a, c, d⟩ => ⟨b, by
  have : b ≠ i.toNat := fun e => q (by rw [← e]; exact c)
  omega, c, d⟩⟩
theorem raI.ye {V : Nat → Int} {s i : Int} {fr y x y' : Nat} (h : raI V s fr i y) (h0 : 0 ≤ i) (q : bt fr i.toNat = 1) (l : lsV V s (i.toNat : Nat) x) (e : y' = y ||| x) : raI V s fr (i + 1) y' := fun j => by
  have hj := h j
  have lj := lsV_e l j
  have l1 := bt_le y j
  have l2 := bt_le x j
  rw [e, bt_or]
  constructor
  · intro z
    by_cases a : bt y j = 1
    · obtain ⟨b, b1, b2, b3⟩ := hj.mp a
      exact ⟨b, by omega, b2, b3⟩
    · exact ⟨i.toNat, by omega, q, lj.mp (by omega)⟩
  · rintro ⟨b, b1, b2, b3⟩
    by_cases a : b = i.toNat
    · rw [a] at b3; have := lj.mpr b3; omega
    · have := hj.mpr ⟨b, by omega, b2, b3⟩; omega
theorem e_raL {d : Nat} {w : am_W} {V : Nat → Int} (R : RCs w 3 V) (s : Int32) (fr : Int64) (hs : -1000 ≤ s.toInt ∧ s.toInt ≤ 1000) (I : ab_inv ab_TT ab_sets w) (J : ab_J ab_TT ab_sets ab_WR w w) : ∀ (m : Nat) (y : Int64) (c : Int32), (szV V - c.toInt).toNat < m → 0 ≤ c.toInt → c.toInt ≤ szV V → raI V s.toInt (n64 fr) c.toInt (n64 y) → aw none (d + 2) 45 (fun r w1 => w = w1 ∧ ∃ z : Int64, r = some (.long z) ∧ raI V s.toInt (n64 fr) (szV V) (n64 z)) (6, [some (.ref 3), some (.int s), some (.long fr), none, some (.long y), none, some (.int c)], []) w := by
  have szc := szC_in I
  have hsz := R.sz
  intro m
  induction m with
  | zero => intro y c p; omega
  | succ m ih =>
    intro y c p1 p2 p3 F
    refine aw_step (f1 := (8, [some (.ref 3), some (.int s), some (.long fr), none, some (.long y), none, some (.int c)], [(.int c)])) (w1 := w) rfl rfl ?_
    refine aw_step (f1 := (9, [some (.ref 3), some (.int s), some (.long fr), none, some (.long y), none, some (.int c)], [(.ref 3), (.int c)])) (w1 := w) rfl rfl ?_
    refine s_cv (z := 38) (p := 3) (as := []) (st1 := [(.int c)]) J 12 rfl rfl rfl rfl rfl rfl rfl rfl (Nat.le_of_ble_eq_true rfl) (Nat.le_of_ble_eq_true rfl) (q_size J.1) ?_
    rintro _ _ ⟨rfl, x1, rfl, x1t⟩
    refine ⟨rfl, ?_⟩
    show aw none _ 45 _ (12, [some (.ref 3), some (.int s), some (.long fr), none, some (.long y), none, some (.int c)], [(.int x1), (.int c)]) w
    refine s_ic 42 15 rfl rfl rfl (fun (h2 : x1.toInt ≤ c.toInt) => ?_) (fun (h2 : ¬ (x1.toInt ≤ c.toInt)) => ?_)
    · --
      refine aw_step (f1 := (44, [some (.ref 3), some (.int s), some (.long fr), none, some (.long y), none, some (.int c)], [(.long y)])) (w1 := w) rfl rfl ?_
      refine aw_ret (v := some (.long y)) rfl rfl ?_
      rw [show c.toInt = szV V by omega] at F
      exact ⟨rfl, y, rfl, F⟩
    · --
      refine aw_step (f1 := (16, [some (.ref 3), some (.int s), some (.long fr), none, some (.long y), none, some (.int c)], [(.long fr)])) (w1 := w) rfl rfl ?_
      refine aw_step (f1 := (18, [some (.ref 3), some (.int s), some (.long fr), none, some (.long y), none, some (.int c)], [(.int c), (.long fr)])) (w1 := w) rfl rfl ?_
      refine s_cs (z := 105) (as := [(.long fr), (.int c)]) (st1 := []) 21 rfl rfl rfl rfl rfl rfl (Nat.le_of_ble_eq_true rfl) (Nat.le_of_ble_eq_true rfl) (Nat.le_of_ble_eq_true rfl) (q_hasC fr c (by omega) (by omega)) ?_
      rintro _ _ ⟨rfl, x3, rfl, x3t⟩
      refine ⟨rfl, ?_⟩
      show aw none _ 45 _ (21, [some (.ref 3), some (.int s), some (.long fr), none, some (.long y), none, some (.int c)], [(.int x3)]) w
      have x3l := bt_le (n64 fr) c.toInt.toNat
      refine s_if 36 24 rfl rfl rfl (fun (h4 : x3.toInt = 0) => ?_) (fun (h4 : ¬ (x3.toInt = 0)) => ?_)
      · --
        refine aw_step (f1 := (39, [some (.ref 3), some (.int s), some (.long fr), none, some (.long y), none, some (.int (c + Int32.ofInt 1))], [])) (w1 := w) rfl rfl ?_
        obtain ⟨x5, x5e⟩ : ∃ z, z = (c + Int32.ofInt 1) := ⟨_, rfl⟩
        have x5t : x5.toInt = c.toInt + (1) := by rw [x5e]; exact n_add (y := Int32.ofInt (1)) (by show _ ≤ _ + (1 : Int); omega) (by show _ + (1 : Int) ≤ _; omega)
        rw [← x5e]
        refine aw_step (f1 := (6, [some (.ref 3), some (.int s), some (.long fr), none, some (.long y), none, some (.int x5)], [])) (w1 := w) rfl rfl ?_
        exact ih y x5 (by omega) (by omega) (by omega) (by rw [show x5.toInt = c.toInt + 1 by omega]; exact F.no (by omega) (by omega))
      · --
        refine aw_step (f1 := (26, [some (.ref 3), some (.int s), some (.long fr), none, some (.long y), none, some (.int c)], [(.long y)])) (w1 := w) rfl rfl ?_
        refine aw_step (f1 := (27, [some (.ref 3), some (.int s), some (.long fr), none, some (.long y), none, some (.int c)], [(.ref 3), (.long y)])) (w1 := w) rfl rfl ?_
        refine aw_step (f1 := (28, [some (.ref 3), some (.int s), some (.long fr), none, some (.long y), none, some (.int c)], [(.int s), (.ref 3), (.long y)])) (w1 := w) rfl rfl ?_
        refine aw_step (f1 := (30, [some (.ref 3), some (.int s), some (.long fr), none, some (.long y), none, some (.int c)], [(.int c), (.int s), (.ref 3), (.long y)])) (w1 := w) rfl rfl ?_
        refine s_cv (z := 44) (p := 3) (as := [(.int s), (.int c)]) (st1 := [(.long y)]) J 33 rfl rfl rfl rfl rfl rfl rfl rfl (Nat.le_of_ble_eq_true rfl) (Nat.le_of_ble_eq_true rfl) (e_reach R s c ⟨by omega, by omega⟩ ⟨by omega, by omega⟩ J.1) ?_
        rintro _ _ ⟨rfl, y6, rfl, y6t⟩
        refine ⟨rfl, ?_⟩
        show aw none _ 45 _ (33, [some (.ref 3), some (.int s), some (.long fr), none, some (.long y), none, some (.int c)], [(.long y6), (.long y)]) w
        --
        refine s_l (pc1 := 34) (ls1 := [some (.ref 3), some (.int s), some (.long fr), none, some (.long y), none, some (.int c)]) (st1 := []) rfl rfl fun y7 e8 => ?_
        have e8 : y7 = y ||| y6 := e8
        refine aw_step (f1 := (36, [some (.ref 3), some (.int s), some (.long fr), none, some (.long y7), none, some (.int c)], [])) (w1 := w) rfl rfl ?_
        refine aw_step (f1 := (39, [some (.ref 3), some (.int s), some (.long fr), none, some (.long y7), none, some (.int (c + Int32.ofInt 1))], [])) (w1 := w) rfl rfl ?_
        obtain ⟨x9, x9e⟩ : ∃ z, z = (c + Int32.ofInt 1) := ⟨_, rfl⟩
        have x9t : x9.toInt = c.toInt + (1) := by rw [x9e]; exact n_add (y := Int32.ofInt (1)) (by show _ ≤ _ + (1 : Int); omega) (by show _ + (1 : Int) ≤ _; omega)
        rw [← x9e]
        refine aw_step (f1 := (6, [some (.ref 3), some (.int s), some (.long fr), none, some (.long y7), none, some (.int x9)], [])) (w1 := w) rfl rfl ?_
        exact ih y7 x9 (by omega) (by omega) (by omega) (by rw [show x9.toInt = c.toInt + 1 by omega]; exact F.ye (by omega) (by omega) (by rw [show ((c.toInt.toNat : Nat) : Int) = c.toInt by omega]; exact y6t) (by rw [e8, n64_or]))
theorem e_reachFromAll {d : Nat} {w : am_W} {V : Nat → Int} (R : RCs w 3 V) (s : Int32) (fr : Int64) (hs : -1000 ≤ s.toInt ∧ s.toInt ≤ 1000) (I : ab_inv ab_TT ab_sets w) : aw none (d + 2) 45 (fun r w1 => w = w1 ∧ ∃ z : Int64, r = some (.long z) ∧ raI V s.toInt (n64 fr) (szV V) (n64 z)) (0, am_entry 45 [.ref 3, .int s, .long fr], []) w := by
  have J : ab_J ab_TT ab_sets ab_WR w w := ⟨I, ab_fr.rf⟩
  have szc := szC_in I
  have hsz := R.sz
  show aw none (d + 2) 45 _ (0, [some (.ref 3), some (.int s), some (.long fr), none, none, none, none], []) w
  refine s_l (pc1 := 1) (ls1 := [some (.ref 3), some (.int s), some (.long fr), none, none, none, none]) (st1 := []) rfl rfl fun y1 e2 => ?_
  have e2t : y1.toInt = 0 := by rw [e2]; rfl
  refine aw_step (f1 := (3, [some (.ref 3), some (.int s), some (.long fr), none, some (.long y1), none, none], [])) (w1 := w) rfl rfl ?_
  refine s_i (pc1 := 4) (ls1 := [some (.ref 3), some (.int s), some (.long fr), none, some (.long y1), none, none]) (st1 := []) rfl rfl fun x3 e4 => ?_
  have e4t : x3.toInt = 0 := by rw [e4]; rfl
  refine aw_step (f1 := (6, [some (.ref 3), some (.int s), some (.long fr), none, some (.long y1), none, some (.int x3)], [])) (w1 := w) rfl rfl ?_
  exact e_raL R s fr hs I J 37 y1 x3 (by omega) (by omega) (by omega) (fun j => ⟨fun q => by rw [n64_z.mp e2t, bt_z] at q; omega, fun ⟨b, q, _⟩ => by omega⟩)
theorem e_mkL {d : Nat} {w00 : am_W} (fr : Int64) (n : Int32) (I0 : ab_inv ab_TT ab_sets w00) : ∀ (m : Nat) (w : am_W) (c : Int32), (szC w00 - c.toInt).toNat < m → 0 ≤ c.toInt → c.toInt ≤ szC w00 → ab_J ab_TT ab_sets ab_WR w00 w → only [19] w00 w → fRow (rI w 19) (rI w00 19) (bt (n64 fr)) n.toInt c.toInt → aw none (d + 1) 24 (fun r w1 => r = none ∧ ab_J ab_TT ab_sets ab_WR w00 w1 ∧ only [19] w00 w1 ∧ fRow (rI w1 19) (rI w00 19) (bt (n64 fr)) n.toInt (szC w00)) (3, [some (.ref 18), some (.ref 3), some (.long fr), none, some (.int n), some (.int c)], []) w := by
  have szc := szC_in I0
  have na := ab_any32 n
  unfold ab_lo32 ab_hi32 at na
  intro m
  induction m with
  | zero => intro w c p; omega
  | succ m ih =>
    intro w c p1 p2 p3 J O F
    have hs : szC w = szC w00 := by unfold szC; rw [O.fIe (by decide), O.fIe (by decide)]
    refine aw_step (f1 := (5, [some (.ref 18), some (.ref 3), some (.long fr), none, some (.int n), some (.int c)], [(.int c)])) (w1 := w) rfl rfl ?_
    refine aw_step (f1 := (6, [some (.ref 18), some (.ref 3), some (.long fr), none, some (.int n), some (.int c)], [(.ref 3), (.int c)])) (w1 := w) rfl rfl ?_
    refine s_cv (z := 38) (p := 3) (as := []) (st1 := [(.int c)]) J 9 rfl rfl rfl rfl rfl rfl rfl rfl (Nat.le_of_ble_eq_true rfl) (Nat.le_of_ble_eq_true rfl) (q_size J.1) ?_
    rintro _ _ ⟨rfl, x1, rfl, x1t⟩
    refine ⟨rfl, ?_⟩
    show aw none _ 24 _ (9, [some (.ref 18), some (.ref 3), some (.long fr), none, some (.int n), some (.int c)], [(.int x1), (.int c)]) w
    refine s_ic 36 12 rfl rfl rfl (fun (h2 : x1.toInt ≤ c.toInt) => ?_) (fun (h2 : ¬ (x1.toInt ≤ c.toInt)) => ?_)
    · --
      refine aw_ret (v := none) rfl rfl ?_
      rw [show c.toInt = szC w00 by omega] at F
      exact ⟨rfl, J, O, F⟩
    · --
      refine aw_step (f1 := (13, [some (.ref 18), some (.ref 3), some (.long fr), none, some (.int n), some (.int c)], [(.long fr)])) (w1 := w) rfl rfl ?_
      refine aw_step (f1 := (15, [some (.ref 18), some (.ref 3), some (.long fr), none, some (.int n), some (.int c)], [(.int c), (.long fr)])) (w1 := w) rfl rfl ?_
      refine s_cs (z := 105) (as := [(.long fr), (.int c)]) (st1 := []) 18 rfl rfl rfl rfl rfl rfl (Nat.le_of_ble_eq_true rfl) (Nat.le_of_ble_eq_true rfl) (Nat.le_of_ble_eq_true rfl) (q_hasC fr c (by omega) (by omega)) ?_
      rintro _ _ ⟨rfl, x3, rfl, x3t⟩
      refine ⟨rfl, ?_⟩
      show aw none _ 24 _ (18, [some (.ref 18), some (.ref 3), some (.long fr), none, some (.int n), some (.int c)], [(.int x3)]) w
      have x3l := bt_le (n64 fr) c.toInt.toNat
      refine s_if 30 21 rfl rfl rfl (fun (h4 : x3.toInt = 0) => ?_) (fun (h4 : ¬ (x3.toInt = 0)) => ?_)
      · --
        refine aw_step (f1 := (33, [some (.ref 18), some (.ref 3), some (.long fr), none, some (.int n), some (.int (c + Int32.ofInt 1))], [])) (w1 := w) rfl rfl ?_
        obtain ⟨x5, x5e⟩ : ∃ z, z = (c + Int32.ofInt 1) := ⟨_, rfl⟩
        have x5t : x5.toInt = c.toInt + (1) := by rw [x5e]; exact n_add (y := Int32.ofInt (1)) (by show _ ≤ _ + (1 : Int); omega) (by show _ + (1 : Int) ≤ _; omega)
        rw [← x5e]
        refine aw_step (f1 := (3, [some (.ref 18), some (.ref 3), some (.long fr), none, some (.int n), some (.int x5)], [])) (w1 := w) rfl rfl ?_
        exact ih w x5 (by omega) (by omega) (by omega) J O (by rw [show x5.toInt = c.toInt + 1 by omega]; exact F.no (by omega) (by omega))
      · --
        refine aw_step (f1 := (22, [some (.ref 18), some (.ref 3), some (.long fr), none, some (.int n), some (.int c)], [(.ref 18)])) (w1 := w) rfl rfl ?_
        refine s_gr 19 J 25 rfl rfl rfl rfl rfl rfl ?_
        refine aw_step (f1 := (27, [some (.ref 18), some (.ref 3), some (.long fr), none, some (.int n), some (.int c)], [(.int c), (.ref 19)])) (w1 := w) rfl rfl ?_
        refine aw_step (f1 := (29, [some (.ref 18), some (.ref 3), some (.long fr), none, some (.int n), some (.int c)], [(.int n), (.int c), (.ref 19)])) (w1 := w) rfl rfl ?_
        refine s_is J 30 rfl rfl rfl rfl (by omega) (by omega) (by omega) (by omega) fun w6 J7 w6e => ?_
        have w6f := rI_st J.1 (p := 19) (j := c.toInt.toNat) rfl (by omega) w6e
        refine aw_step (f1 := (33, [some (.ref 18), some (.ref 3), some (.long fr), none, some (.int n), some (.int (c + Int32.ofInt 1))], [])) (w1 := w6) rfl rfl ?_
        obtain ⟨x8, x8e⟩ : ∃ z, z = (c + Int32.ofInt 1) := ⟨_, rfl⟩
        have x8t : x8.toInt = c.toInt + (1) := by rw [x8e]; exact n_add (y := Int32.ofInt (1)) (by show _ ≤ _ + (1 : Int); omega) (by show _ + (1 : Int) ≤ _; omega)
        rw [← x8e]
        refine aw_step (f1 := (3, [some (.ref 18), some (.ref 3), some (.long fr), none, some (.int n), some (.int x8)], [])) (w1 := w6) rfl rfl ?_
        exact ih w6 x8 (by omega) (by omega) (by omega) J7 (O.trans w6f.1) (by rw [show x8.toInt = c.toInt + 1 by omega]; exact F.ye (by omega) (by omega) w6f.2.1 w6f.2.2)
theorem e_mark {d : Nat} {w : am_W} (fr : Int64) (n : Int32) (I : ab_inv ab_TT ab_sets w) : aw none (d + 1) 24 (fun r w1 => r = none ∧ ab_J ab_TT ab_sets ab_WR w w1 ∧ only [19] w w1 ∧ fRow (rI w1 19) (rI w 19) (bt (n64 fr)) n.toInt (szC w)) (0, am_entry 24 [.ref 18, .ref 3, .long fr, .int n], []) w := by
  have J : ab_J ab_TT ab_sets ab_WR w w := ⟨I, ab_fr.rf⟩
  have szc := szC_in I
  show aw none (d + 1) 24 _ (0, [some (.ref 18), some (.ref 3), some (.long fr), none, some (.int n), none], []) w
  refine s_i (pc1 := 1) (ls1 := [some (.ref 18), some (.ref 3), some (.long fr), none, some (.int n), none]) (st1 := []) rfl rfl fun x1 e2 => ?_
  have e2t : x1.toInt = 0 := by rw [e2]; rfl
  refine aw_step (f1 := (3, [some (.ref 18), some (.ref 3), some (.long fr), none, some (.int n), some (.int x1)], [])) (w1 := w) rfl rfl ?_
  exact e_mkL fr n I 37 w x1 (by omega) (by omega) (by omega) J only.rf (by rw [show x1.toInt = 0 by omega]; exact fRow.z)
/-- the search, at its n-th turn -/
noncomputable def nbI (V : Nat → Int) (L : Int) (f k : Nat) (r : Nat → Int) (fr mt n : Nat) : Prop := n ≤ k + 1 ∧ (∀ j, bt fr j = 1 ↔ n ≤ k ∧ frV V L f n j) ∧ (∀ j, bt mt j = 1 ↔ wV V L f (n - 1) j) ∧ ∀ j, j < 36 → (r j = -6 ∧ (n = 0 ∨ ¬ wV V L f (n - 1) j)) ∨ ∃ d : Nat, r j = d ∧ d < n ∧ frV V L f d j
theorem nbI.end_ {V : Nat → Int} {L : Int} {f k : Nat} {r : Nat → Int} {fr mt n : Nat} (h : nbI V L f k r fr mt n) (q : n = k + 1 ∨ fr = 0) : (∀ j, bt mt j = 1 ↔ wV V L f k j) ∧ dcV V L f k r := by
  obtain ⟨h1, h2, h3, h4⟩ := h
  have key : 1 ≤ n ∧ ∀ j, wV V L f (n - 1) j ↔ wV V L f k j := by
    rcases q with q | q
    · exact ⟨by omega, fun j => by rw [show n - 1 = k by omega]⟩
    · by_cases e : n = k + 1
      · exact ⟨by omega, fun j => by rw [show n - 1 = k by omega]⟩
      · have z : ∀ j, ¬ frV V L f n j := fun j hj => by
          have := (h2 j).mpr ⟨by omega, hj⟩
          rw [q, bt_z] at this; omega
        have n1 : 1 ≤ n := by
          apply Classical.byContradiction
          intro y
          exact z f (by rw [show n = 0 by omega]; exact ⟨rfl, Or.inl rfl⟩)
        refine ⟨n1, fun j => ⟨fun a => wV_le (by omega) a, fun a => ?_⟩⟩
        refine wV_fix (fun j b => ?_) a (by omega)
        rw [show n - 1 + 1 = n by omega] at b
        apply Classical.byContradiction
        intro y
        exact z j ⟨b, Or.inr y⟩
  refine ⟨fun j => (h3 j).trans (key.2 j), fun j hj => ?_⟩
  rcases h4 j hj with a | ⟨d, a, b, c⟩
  · exact Or.inl ⟨a.1, fun y => (a.2.resolve_left (by omega)) ((key.2 j).mpr y)⟩
  · exact Or.inr ⟨d, a, by omega, c⟩
theorem nbI.st {V : Nat → Int} {L : Int} {f k : Nat} {r r' : Nat → Int} {fr mt n ra fr' mt' : Nat} (h : nbI V L f k r fr mt n) (hf : (f : Int) < szV V) (hz : szV V ≤ 36) (hk : n ≤ k) (hr : fRow r' r (bt fr) n (szV V)) (em : ∀ j, bt mt' j = max (bt mt j) (bt fr j)) (ef : (n < k ∧ raI V L fr (szV V) ra ∧ ∀ j, bt fr' j = min (bt ra j) (1 - bt mt' j)) ∨ (n = k ∧ fr' = 0)) : nbI V L f k r' fr' mt' (n + 1) := by
  obtain ⟨h1, h2, h3, h4⟩ := h
  have m1 : ∀ j, bt mt' j = 1 ↔ wV V L f n j := fun j => by
    have a := h2 j
    have b := h3 j
    have l1 := bt_le mt j
    have l2 := bt_le fr j
    rw [em j]
    constructor
    · intro z
      by_cases c : bt fr j = 1
      · exact (a.mp c).2.1
      · exact wV_le (by omega) (b.mp (by omega))
    · intro z
      by_cases c : n = 0
      · have := a.mpr ⟨hk, z, Or.inl c⟩; omega
      · by_cases y : wV V L f (n - 1) j
        · have := b.mpr y; omega
        · have := a.mpr ⟨hk, z, Or.inr y⟩; omega
  refine ⟨by omega, fun j => ?_, fun j => by rw [show n + 1 - 1 = n by omega]; exact m1 j, fun j hj => ?_⟩
  · rcases ef with ⟨e1, e2, e3⟩ | ⟨e1, e2⟩
    · rw [e3 j, frV_nx]
      have a := e2 j
      have b := m1 j
      have l1 := bt_le ra j
      have l2 := bt_le mt' j
      constructor
      · intro z
        obtain ⟨i, i1, i2, i3⟩ := a.mp (by omega)
        refine ⟨by omega, ⟨i, ((h2 i).mp i2).2, i3⟩, fun y => ?_⟩
        have := b.mpr y; omega
      · rintro ⟨-, ⟨i, i1, i2⟩, y⟩
        have c := a.mpr ⟨i, wV_sz hf i1.1, (h2 i).mpr ⟨hk, i1⟩, i2⟩
        have e : ¬ bt mt' j = 1 := fun q => y (b.mp q)
        omega
    · rw [e2, bt_z]
      exact ⟨fun z => by omega, fun z => by omega⟩
  · rw [hr j, show n + 1 - 1 = n by omega]
    by_cases c : (j : Int) < szV V ∧ bt fr j = 1
    · rw [if_pos c]
      exact Or.inr ⟨n, rfl, by omega, ((h2 j).mp c.2).2⟩
    · rw [if_neg c]
      rcases h4 j hj with a | ⟨d, a, b, e⟩
      · refine Or.inl ⟨a.1, Or.inr fun y => c ?_⟩
        have sz := wV_sz hf y
        refine ⟨sz, (h2 j).mpr ⟨hk, y, ?_⟩⟩
        by_cases z : n = 0
        · exact Or.inl z
        · exact Or.inr (a.2.resolve_left z)
      · exact Or.inr ⟨d, a, by omega, e⟩
theorem ra_36 {V : Nat → Int} {s i : Int} {fr y : Nat} (h : raI V s fr i y) (hz : szV V ≤ 36) : y < 2 ^ 36 := bt_lt fun j hj => by
  obtain ⟨b, -, -, e⟩ := (h j).mp hj
  have := e.1.1
  omega
theorem e_nbL {d : Nat} {w00 : am_W} {V : Nat → Int} (R00 : RCs w00 3 V) (L f k : Int32) (hL : 1 ≤ L.toInt ∧ L.toInt ≤ 50) (hf : 0 ≤ f.toInt ∧ f.toInt < szV V) (hk : 0 ≤ k.toInt ∧ k.toInt ≤ 36) (I0 : ab_inv ab_TT ab_sets w00) : ∀ (m : Nat) (w : am_W) (fr mt : Int64) (n : Int32), (38 - n.toInt).toNat < m → 0 ≤ n.toInt → n.toInt ≤ 37 → ab_J ab_TT ab_sets ab_WR w00 w → only [19] w00 w → nbI V L.toInt f.toInt.toNat k.toInt.toNat (rI w 19) (n64 fr) (n64 mt) n.toInt.toNat → aw none (d + 3) 23 (fun r w1 => ab_J ab_TT ab_sets ab_WR w00 w1 ∧ only [19] w00 w1 ∧ ∃ z : Int64, r = some (.long z) ∧ (∀ j, bt (n64 z) j = 1 ↔ wV V L.toInt f.toInt.toNat k.toInt.toNat j) ∧ dcV V L.toInt f.toInt.toNat k.toInt.toNat (rI w1 19)) (22, [some (.ref 18), some (.ref 3), some (.int L), some (.int f), some (.int k), some (.long fr), none, some (.long mt), none, some (.int n)], []) w := by
  have szc := szC_in I0
  have hs0 := R00.sz
  have hz36 : szV V ≤ 36 := by omega
  intro m
  induction m with
  | zero => intro w fr mt n p; omega
  | succ m ih =>
    intro w fr mt n p1 p2 p3 J O F
    have R0 := R00
    have hsz : szC w = szV V := by rw [← hs0]; unfold szC; rw [O.fIe (by decide), O.fIe (by decide)]
    have F1 := F.1
    refine aw_step (f1 := (24, [some (.ref 18), some (.ref 3), some (.int L), some (.int f), some (.int k), some (.long fr), none, some (.long mt), none, some (.int n)], [(.int n)])) (w1 := w) rfl rfl ?_
    refine s_i (pc1 := 26) (ls1 := [some (.ref 18), some (.ref 3), some (.int L), some (.int f), some (.int k), some (.long fr), none, some (.long mt), none, some (.int n)]) (st1 := [(.int n)]) rfl rfl fun x1 e2 => ?_
    have e2t : x1.toInt = 36 := by rw [e2]; rfl
    refine s_ic 92 29 rfl rfl rfl (fun (h3 : x1.toInt < n.toInt) => ?_) (fun (h3 : ¬ (x1.toInt < n.toInt)) => ?_)
    · --
      refine aw_step (f1 := (94, [some (.ref 18), some (.ref 3), some (.int L), some (.int f), some (.int k), some (.long fr), none, some (.long mt), none, some (.int n)], [(.long mt)])) (w1 := w) rfl rfl ?_
      refine aw_ret (v := some (.long mt)) rfl rfl ?_
      have E := F.end_ (by first | exact Or.inl (by omega) | exact Or.inr (n64_z.mp (by omega)))
      exact ⟨J, O, mt, rfl, E.1, E.2⟩
    · --
      refine aw_step (f1 := (31, [some (.ref 18), some (.ref 3), some (.int L), some (.int f), some (.int k), some (.long fr), none, some (.long mt), none, some (.int n)], [(.int n)])) (w1 := w) rfl rfl ?_
      refine aw_step (f1 := (33, [some (.ref 18), some (.ref 3), some (.int L), some (.int f), some (.int k), some (.long fr), none, some (.long mt), none, some (.int n)], [(.int k), (.int n)])) (w1 := w) rfl rfl ?_
      refine s_ic 92 36 rfl rfl rfl (fun (h4 : k.toInt < n.toInt) => ?_) (fun (h4 : ¬ (k.toInt < n.toInt)) => ?_)
      · --
        refine aw_step (f1 := (94, [some (.ref 18), some (.ref 3), some (.int L), some (.int f), some (.int k), some (.long fr), none, some (.long mt), none, some (.int n)], [(.long mt)])) (w1 := w) rfl rfl ?_
        refine aw_ret (v := some (.long mt)) rfl rfl ?_
        have E := F.end_ (by first | exact Or.inl (by omega) | exact Or.inr (n64_z.mp (by omega)))
        exact ⟨J, O, mt, rfl, E.1, E.2⟩
      · --
        refine aw_step (f1 := (38, [some (.ref 18), some (.ref 3), some (.int L), some (.int f), some (.int k), some (.long fr), none, some (.long mt), none, some (.int n)], [(.long fr)])) (w1 := w) rfl rfl ?_
        refine s_l (pc1 := 39) (ls1 := [some (.ref 18), some (.ref 3), some (.int L), some (.int f), some (.int k), some (.long fr), none, some (.long mt), none, some (.int n)]) (st1 := [(.long fr)]) rfl rfl fun y5 e6 => ?_
        have e6t : y5.toInt = 0 := by rw [e6]; rfl
        refine s_lc 92 43 40 rfl rfl rfl rfl rfl (fun (h7 : fr.toInt = y5.toInt) => ?_) (fun (h7 : ¬ (fr.toInt = y5.toInt)) => ?_)
        · --
          refine aw_step (f1 := (94, [some (.ref 18), some (.ref 3), some (.int L), some (.int f), some (.int k), some (.long fr), none, some (.long mt), none, some (.int n)], [(.long mt)])) (w1 := w) rfl rfl ?_
          refine aw_ret (v := some (.long mt)) rfl rfl ?_
          have E := F.end_ (by first | exact Or.inl (by omega) | exact Or.inr (n64_z.mp (by omega)))
          exact ⟨J, O, mt, rfl, E.1, E.2⟩
        · --
          refine aw_step (f1 := (44, [some (.ref 18), some (.ref 3), some (.int L), some (.int f), some (.int k), some (.long fr), none, some (.long mt), none, some (.int n)], [(.ref 18)])) (w1 := w) rfl rfl ?_
          refine aw_step (f1 := (45, [some (.ref 18), some (.ref 3), some (.int L), some (.int f), some (.int k), some (.long fr), none, some (.long mt), none, some (.int n)], [(.ref 3), (.ref 18)])) (w1 := w) rfl rfl ?_
          refine aw_step (f1 := (47, [some (.ref 18), some (.ref 3), some (.int L), some (.int f), some (.int k), some (.long fr), none, some (.long mt), none, some (.int n)], [(.long fr), (.ref 3), (.ref 18)])) (w1 := w) rfl rfl ?_
          refine aw_step (f1 := (49, [some (.ref 18), some (.ref 3), some (.int L), some (.int f), some (.int k), some (.long fr), none, some (.long mt), none, some (.int n)], [(.int n), (.long fr), (.ref 3), (.ref 18)])) (w1 := w) rfl rfl ?_
          refine s_cv (z := 24) (p := 18) (as := [(.ref 3), (.long fr), (.int n)]) (st1 := []) J 52 rfl rfl rfl rfl rfl rfl rfl rfl (Nat.le_of_ble_eq_true rfl) (Nat.le_of_ble_eq_true rfl) (e_mark fr n J.1) ?_
          rintro _ w8 ⟨rfl, J9c, w8o, w8p⟩
          have J9 := J.trans J9c
          refine ⟨am_len2 J J9c, ?_⟩
          show aw none _ 23 _ (52, [some (.ref 18), some (.ref 3), some (.int L), some (.int f), some (.int k), some (.long fr), none, some (.long mt), none, some (.int n)], []) w8
          have R := R0.of (O.trans w8o) (by decide)
          --
          refine aw_step (f1 := (54, [some (.ref 18), some (.ref 3), some (.int L), some (.int f), some (.int k), some (.long fr), none, some (.long mt), none, some (.int n)], [(.long mt)])) (w1 := w8) rfl rfl ?_
          refine aw_step (f1 := (56, [some (.ref 18), some (.ref 3), some (.int L), some (.int f), some (.int k), some (.long fr), none, some (.long mt), none, some (.int n)], [(.long fr), (.long mt)])) (w1 := w8) rfl rfl ?_
          refine s_l (pc1 := 57) (ls1 := [some (.ref 18), some (.ref 3), some (.int L), some (.int f), some (.int k), some (.long fr), none, some (.long mt), none, some (.int n)]) (st1 := []) rfl rfl fun y10 e11 => ?_
          have e11 : y10 = mt ||| fr := e11
          refine aw_step (f1 := (59, [some (.ref 18), some (.ref 3), some (.int L), some (.int f), some (.int k), some (.long fr), none, some (.long y10), none, some (.int n)], [])) (w1 := w8) rfl rfl ?_
          refine aw_step (f1 := (61, [some (.ref 18), some (.ref 3), some (.int L), some (.int f), some (.int k), some (.long fr), none, some (.long y10), none, some (.int n)], [(.int n)])) (w1 := w8) rfl rfl ?_
          refine aw_step (f1 := (63, [some (.ref 18), some (.ref 3), some (.int L), some (.int f), some (.int k), some (.long fr), none, some (.long y10), none, some (.int n)], [(.int k), (.int n)])) (w1 := w8) rfl rfl ?_
          refine s_ic 83 66 rfl rfl rfl (fun (h12 : k.toInt ≤ n.toInt) => ?_) (fun (h12 : ¬ (k.toInt ≤ n.toInt)) => ?_)
          · --
            --
            refine s_l (pc1 := 84) (ls1 := [some (.ref 18), some (.ref 3), some (.int L), some (.int f), some (.int k), some (.long fr), none, some (.long y10), none, some (.int n)]) (st1 := []) rfl rfl fun y13 e14 => ?_
            have e14t : y13.toInt = 0 := by rw [e14]; rfl
            refine aw_step (f1 := (86, [some (.ref 18), some (.ref 3), some (.int L), some (.int f), some (.int k), some (.long y13), none, some (.long y10), none, some (.int n)], [])) (w1 := w8) rfl rfl ?_
            refine aw_step (f1 := (89, [some (.ref 18), some (.ref 3), some (.int L), some (.int f), some (.int k), some (.long y13), none, some (.long y10), none, some (.int (n + Int32.ofInt 1))], [])) (w1 := w8) rfl rfl ?_
            obtain ⟨x15, x15e⟩ : ∃ z, z = (n + Int32.ofInt 1) := ⟨_, rfl⟩
            have x15t : x15.toInt = n.toInt + (1) := by rw [x15e]; exact n_add (y := Int32.ofInt (1)) (by show _ ≤ _ + (1 : Int); omega) (by show _ + (1 : Int) ≤ _; omega)
            rw [← x15e]
            refine aw_step (f1 := (22, [some (.ref 18), some (.ref 3), some (.int L), some (.int f), some (.int k), some (.long y13), none, some (.long y10), none, some (.int x15)], [])) (w1 := w8) rfl rfl ?_
            refine ih w8 y13 y10 x15 (by omega) (by omega) (by omega) J9 (O.trans w8o) ?_
            rw [show x15.toInt.toNat = n.toInt.toNat + 1 by omega]
            refine nbI.st (ra := 0) F (by omega) (by omega) (by omega) (by have q := w8p; rw [hsz, show n.toInt = ((n.toInt.toNat : Nat) : Int) by omega] at q; exact q) (fun j => by rw [e11, n64_or, bt_or]) (Or.inr ⟨by omega, n64_z.mp (by omega)⟩)
          · --
            refine aw_step (f1 := (67, [some (.ref 18), some (.ref 3), some (.int L), some (.int f), some (.int k), some (.long fr), none, some (.long y10), none, some (.int n)], [(.ref 3)])) (w1 := w8) rfl rfl ?_
            refine aw_step (f1 := (68, [some (.ref 18), some (.ref 3), some (.int L), some (.int f), some (.int k), some (.long fr), none, some (.long y10), none, some (.int n)], [(.int L), (.ref 3)])) (w1 := w8) rfl rfl ?_
            refine aw_step (f1 := (70, [some (.ref 18), some (.ref 3), some (.int L), some (.int f), some (.int k), some (.long fr), none, some (.long y10), none, some (.int n)], [(.long fr), (.int L), (.ref 3)])) (w1 := w8) rfl rfl ?_
            refine s_cv (z := 45) (p := 3) (as := [(.int L), (.long fr)]) (st1 := []) J9 73 rfl rfl rfl rfl rfl rfl rfl rfl (Nat.le_of_ble_eq_true rfl) (Nat.le_of_ble_eq_true rfl) (e_reachFromAll R L fr ⟨by omega, by omega⟩ J9.1) ?_
            rintro _ _ ⟨rfl, y16, rfl, y16t⟩
            refine ⟨rfl, ?_⟩
            show aw none _ 23 _ (73, [some (.ref 18), some (.ref 3), some (.int L), some (.int f), some (.int k), some (.long fr), none, some (.long y10), none, some (.int n)], [(.long y16)]) w8
            --
            refine aw_step (f1 := (75, [some (.ref 18), some (.ref 3), some (.int L), some (.int f), some (.int k), some (.long fr), none, some (.long y10), none, some (.int n)], [(.long y10), (.long y16)])) (w1 := w8) rfl rfl ?_
            refine s_l (pc1 := 78) (ls1 := [some (.ref 18), some (.ref 3), some (.int L), some (.int f), some (.int k), some (.long fr), none, some (.long y10), none, some (.int n)]) (st1 := [(.long y10), (.long y16)]) rfl rfl fun y17 e18 => ?_
            have e18t : y17.toInt = -1 := by rw [e18]; rfl
            --
            refine s_l (pc1 := 79) (ls1 := [some (.ref 18), some (.ref 3), some (.int L), some (.int f), some (.int k), some (.long fr), none, some (.long y10), none, some (.int n)]) (st1 := [(.long y16)]) rfl rfl fun y19 e20 => ?_
            have e20 : y19 = y10 ^^^ y17 := e20
            --
            refine s_l (pc1 := 80) (ls1 := [some (.ref 18), some (.ref 3), some (.int L), some (.int f), some (.int k), some (.long fr), none, some (.long y10), none, some (.int n)]) (st1 := []) rfl rfl fun y21 e22 => ?_
            have e22 : y21 = y16 &&& y19 := e22
            refine aw_step (f1 := (84, [some (.ref 18), some (.ref 3), some (.int L), some (.int f), some (.int k), some (.long fr), none, some (.long y10), none, some (.int n)], [(.long y21)])) (w1 := w8) rfl rfl ?_
            refine aw_step (f1 := (86, [some (.ref 18), some (.ref 3), some (.int L), some (.int f), some (.int k), some (.long y21), none, some (.long y10), none, some (.int n)], [])) (w1 := w8) rfl rfl ?_
            refine aw_step (f1 := (89, [some (.ref 18), some (.ref 3), some (.int L), some (.int f), some (.int k), some (.long y21), none, some (.long y10), none, some (.int (n + Int32.ofInt 1))], [])) (w1 := w8) rfl rfl ?_
            obtain ⟨x23, x23e⟩ : ∃ z, z = (n + Int32.ofInt 1) := ⟨_, rfl⟩
            have x23t : x23.toInt = n.toInt + (1) := by rw [x23e]; exact n_add (y := Int32.ofInt (1)) (by show _ ≤ _ + (1 : Int); omega) (by show _ + (1 : Int) ≤ _; omega)
            rw [← x23e]
            refine aw_step (f1 := (22, [some (.ref 18), some (.ref 3), some (.int L), some (.int f), some (.int k), some (.long y21), none, some (.long y10), none, some (.int x23)], [])) (w1 := w8) rfl rfl ?_
            refine ih w8 y21 y10 x23 (by omega) (by omega) (by omega) J9 (O.trans w8o) ?_
            rw [show x23.toInt.toNat = n.toInt.toNat + 1 by omega]
            refine nbI.st (ra := n64 y16) F (by omega) (by omega) (by omega) (by have q := w8p; rw [hsz, show n.toInt = ((n.toInt.toNat : Nat) : Int) by omega] at q; exact q) (fun j => by rw [e11, n64_or, bt_or]) (Or.inl ⟨by omega, y16t, fun j => ?_⟩)
            rw [e22, e20]
            exact fn_and e18t (ra_36 y16t hz36) j
theorem e_nearby {d : Nat} {w : am_W} {V : Nat → Int} (R : RCs w 3 V) (L f k : Int32) (hL : 1 ≤ L.toInt ∧ L.toInt ≤ 50) (hf : 0 ≤ f.toInt ∧ f.toInt < szV V) (hk : 0 ≤ k.toInt ∧ k.toInt ≤ 36) (I : ab_inv ab_TT ab_sets w) : aw none (d + 3) 23 (fun r w1 => ab_J ab_TT ab_sets ab_WR w w1 ∧ only [19] w w1 ∧ ∃ z : Int64, r = some (.long z) ∧ (∀ j, bt (n64 z) j = 1 ↔ wV V L.toInt f.toInt.toNat k.toInt.toNat j) ∧ dcV V L.toInt f.toInt.toNat k.toInt.toNat (rI w1 19)) (0, am_entry 23 [.ref 18, .ref 3, .int L, .int f, .int k], []) w := by
  have J : ab_J ab_TT ab_sets ab_WR w w := ⟨I, ab_fr.rf⟩
  have szc := szC_in I
  have hs0 := R.sz
  show aw none (d + 3) 23 _ (0, [some (.ref 18), some (.ref 3), some (.int L), some (.int f), some (.int k), none, none, none, none, none], []) w
  refine aw_step (f1 := (1, [some (.ref 18), some (.ref 3), some (.int L), some (.int f), some (.int k), none, none, none, none, none], [(.ref 18)])) (w1 := w) rfl rfl ?_
  refine s_gr 19 J 4 rfl rfl rfl rfl rfl rfl ?_
  refine s_i (pc1 := 6) (ls1 := [some (.ref 18), some (.ref 3), some (.int L), some (.int f), some (.int k), none, none, none, none, none]) (st1 := [(.ref 19)]) rfl rfl fun x1 e2 => ?_
  have e2t : x1.toInt = -6 := by rw [e2]; rfl
  refine s_cs (z := 192) (as := [(.ref 19), (.int x1)]) (st1 := []) 9 rfl rfl rfl rfl rfl rfl (Nat.le_of_ble_eq_true rfl) (Nat.le_of_ble_eq_true rfl) (Nat.le_of_ble_eq_true rfl) (e_fill19 x1 J.1) ?_
  rintro _ w3 ⟨rfl, J4c, w3o, w3p⟩
  have J4 := J.trans J4c
  refine ⟨am_len2 J J4c, ?_⟩
  show aw none _ 23 _ (9, [some (.ref 18), some (.ref 3), some (.int L), some (.int f), some (.int k), none, none, none, none, none], []) w3
  refine aw_step (f1 := (10, [some (.ref 18), some (.ref 3), some (.int L), some (.int f), some (.int k), none, none, none, none, none], [(.int f)])) (w1 := w3) rfl rfl ?_
  refine s_cs (z := 104) (as := [(.int f)]) (st1 := []) 13 rfl rfl rfl rfl rfl rfl (Nat.le_of_ble_eq_true rfl) (Nat.le_of_ble_eq_true rfl) (Nat.le_of_ble_eq_true rfl) (q_bit f) ?_
  rintro _ _ ⟨rfl, y5, rfl, y5e⟩
  refine ⟨rfl, ?_⟩
  show aw none _ 23 _ (13, [some (.ref 18), some (.ref 3), some (.int L), some (.int f), some (.int k), none, none, none, none, none], [(.long y5)]) w3
  refine aw_step (f1 := (15, [some (.ref 18), some (.ref 3), some (.int L), some (.int f), some (.int k), some (.long y5), none, none, none, none], [])) (w1 := w3) rfl rfl ?_
  refine aw_step (f1 := (17, [some (.ref 18), some (.ref 3), some (.int L), some (.int f), some (.int k), some (.long y5), none, none, none, none], [(.long y5)])) (w1 := w3) rfl rfl ?_
  refine aw_step (f1 := (19, [some (.ref 18), some (.ref 3), some (.int L), some (.int f), some (.int k), some (.long y5), none, some (.long y5), none, none], [])) (w1 := w3) rfl rfl ?_
  refine s_i (pc1 := 20) (ls1 := [some (.ref 18), some (.ref 3), some (.int L), some (.int f), some (.int k), some (.long y5), none, some (.long y5), none, none]) (st1 := []) rfl rfl fun x6 e7 => ?_
  have e7t : x6.toInt = 0 := by rw [e7]; rfl
  refine aw_step (f1 := (22, [some (.ref 18), some (.ref 3), some (.int L), some (.int f), some (.int k), some (.long y5), none, some (.long y5), none, some (.int x6)], [])) (w1 := w3) rfl rfl ?_
  have fe : n64 y5 = 2 ^ f.toInt.toNat := by rw [y5e]; exact n64_shl (by omega) (by omega) rfl
  refine e_nbL R L f k hL hf hk I 39 w3 y5 y5 x6 (by omega) (by omega) (by omega) J4 w3o ⟨by omega, fun j => ?_, fun j => ?_, fun j hj => Or.inl ⟨?_, Or.inl (by omega)⟩⟩
  · rw [fe, bt_pow, show x6.toInt.toNat = 0 by omega]
    constructor
    · intro z
      by_cases e : f.toInt.toNat = j
      · exact ⟨by omega, e.symm, Or.inl rfl⟩
      · rw [if_neg e] at z; omega
    · intro z
      have e : j = f.toInt.toNat := z.2.1
      rw [if_pos e.symm]
  · rw [fe, bt_pow, show x6.toInt.toNat - 1 = 0 by omega]
    constructor
    · intro z
      by_cases e : f.toInt.toNat = j
      · exact e.symm
      · rw [if_neg e] at z; omega
    · intro z
      have e : j = f.toInt.toNat := z
      rw [if_pos e.symm]
  · rw [w3p j hj]; omega
theorem e_measure {d : Nat} {w : am_W} {V : Nat → Int} (R : RCs w 3 V) (L f : Int32) (hL : 1 ≤ L.toInt ∧ L.toInt ≤ 50) (hf : 0 ≤ f.toInt ∧ f.toInt < szV V) (I : ab_inv ab_TT ab_sets w) : aw none (d + 4) 22 (fun r w1 => ab_J ab_TT ab_sets ab_WR w w1 ∧ only [19] w w1 ∧ ∃ z : Int64, r = some (.long z) ∧ (∀ j, bt (n64 z) j = 1 ↔ wV V L.toInt f.toInt.toNat 36 j) ∧ dcV V L.toInt f.toInt.toNat 36 (rI w1 19)) (0, am_entry 22 [.ref 18, .ref 3, .int L, .int f], []) w := by
  have J : ab_J ab_TT ab_sets ab_WR w w := ⟨I, ab_fr.rf⟩
  show aw none (d + 4) 22 _ (0, [some (.ref 18), some (.ref 3), some (.int L), some (.int f)], []) w
  refine aw_step (f1 := (1, [some (.ref 18), some (.ref 3), some (.int L), some (.int f)], [(.ref 18)])) (w1 := w) rfl rfl ?_
  refine aw_step (f1 := (2, [some (.ref 18), some (.ref 3), some (.int L), some (.int f)], [(.ref 3), (.ref 18)])) (w1 := w) rfl rfl ?_
  refine aw_step (f1 := (3, [some (.ref 18), some (.ref 3), some (.int L), some (.int f)], [(.int L), (.ref 3), (.ref 18)])) (w1 := w) rfl rfl ?_
  refine aw_step (f1 := (4, [some (.ref 18), some (.ref 3), some (.int L), some (.int f)], [(.int f), (.int L), (.ref 3), (.ref 18)])) (w1 := w) rfl rfl ?_
  refine s_i (pc1 := 6) (ls1 := [some (.ref 18), some (.ref 3), some (.int L), some (.int f)]) (st1 := [(.int f), (.int L), (.ref 3), (.ref 18)]) rfl rfl fun x1 e2 => ?_
  have e2t : x1.toInt = 36 := by rw [e2]; rfl
  refine s_cv (z := 23) (p := 18) (as := [(.ref 3), (.int L), (.int f), (.int x1)]) (st1 := []) J 9 rfl rfl rfl rfl rfl rfl rfl rfl (Nat.le_of_ble_eq_true rfl) (Nat.le_of_ble_eq_true rfl) (e_nearby R L f x1 ⟨by omega, by omega⟩ ⟨by omega, by omega⟩ ⟨by omega, by omega⟩ J.1) ?_
  rintro _ w4 ⟨J5c, w4o, y3, rfl, y3t, w4p⟩
  have J5 := J.trans J5c
  refine ⟨am_len2 J J5c, ?_⟩
  show aw none _ 22 _ (9, [some (.ref 18), some (.ref 3), some (.int L), some (.int f)], [(.long y3)]) w4
  refine aw_ret (v := some (.long y3)) rfl rfl ?_
  have q1 := y3t
  have q2 := w4p
  rw [show x1.toInt.toNat = 36 by omega] at q2
  exact ⟨J5, w4o, y3, rfl, fun j => by have := q1 j; rw [show x1.toInt.toNat = 36 by omega] at this; exact this, q2⟩
