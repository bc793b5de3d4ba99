/-! ===== far ===== -/
section FV
variable {V : Nat → Int} {L : Int} {t : Nat}
theorem frV_un {a b j : Nat} (h : frV V L t a j) (g : frV V L t b j) : a = b := by
  have key : ∀ {a b : Nat}, frV V L t a j → frV V L t b j → a ≤ b := fun {a b} h g => by
    apply Classical.byContradiction
    intro z
    rcases h.2 with q | q
    · omega
    · exact q (wV_le (by omega) g.1)
  exact Nat.le_antisymm (key h g) (key g h)
theorem wV_fr {n j : Nat} (h : wV V L t n j) : ∃ d, d ≤ n ∧ frV V L t d j := by
  induction n with
  | zero => exact ⟨0, Nat.le_refl _, h, Or.inl rfl⟩
  | succ n ih =>
    by_cases q : wV V L t n j
    · obtain ⟨d, a, b⟩ := ih q; exact ⟨d, by omega, b⟩
    · exact ⟨n + 1, Nat.le_refl _, h, Or.inr q⟩
theorem eV_c {i j : Nat} (h : eV V L i j) (hi : (i : Int) < szV V ∧ V (40 + i) ≠ 126) : eV V L j i := ⟨hi, by rw [sqM_c]; exact h.2⟩
theorem frV_pre {d j : Nat} (ht : (t : Int) < szV V ∧ V (40 + t) ≠ 126) (h : frV V L t (d + 1) j) : ∃ i, eV V L j i ∧ frV V L t d i := by
  obtain ⟨⟨i, a, b⟩, -⟩ := frV_nx.mp h
  exact ⟨i, eV_c b (wV_ld ht a.1), a⟩
/-- the least next cell -/
noncomputable def nxV (V : Nat → Int) (L : Int) (t d b c : Nat) : Prop := (eV V L b c ∧ frV V L t d c) ∧ ∀ j, j < c → ¬ (eV V L b j ∧ frV V L t d j)
theorem nxV_un {d b c e : Nat} (h : nxV V L t d b c) (g : nxV V L t d b e) : c = e := by
  rcases Nat.lt_trichotomy c e with q | q | q
  · exact absurd h.1 (g.2 c q)
  · exact q
  · exact absurd g.1 (h.2 e q)
/-- where the way is behind k strides -/
noncomputable def ptV (V : Nat → Int) (L : Int) (t d f : Nat) : Nat → Nat → Prop
  | 0, c => c = f
  | k + 1, c => ∃ b, ptV V L t d f k b ∧ nxV V L t (d - k - 1) b c
theorem ptV_un {d f : Nat} : ∀ {k a b : Nat}, ptV V L t d f k a → ptV V L t d f k b → a = b
  | 0, a, b, h, g => by have h : a = f := h; have g : b = f := g; rw [h, g]
  | k + 1, a, b, ⟨p, h1, h2⟩, ⟨q, g1, g2⟩ => by
    have e := ptV_un h1 g1
    subst e
    exact nxV_un h2 g2
theorem ptV_fr {d f : Nat} (hf : frV V L t d f) : ∀ {k c : Nat}, k ≤ d → ptV V L t d f k c → frV V L t (d - k) c
  | 0, c, _, h => by have h : c = f := h; rw [h]; exact hf
  | k + 1, c, hk, ⟨b, h1, h2⟩ => by rw [show d - (k + 1) = d - k - 1 by omega]; exact h2.1.2
end FV
noncomputable def farP (V : Nat → Int) (b f t i z : Int) : Prop := (z = -1 ∧ ((b < 0 ∨ 3 < b) ∨ (f < 0 ∨ szV V ≤ f ∨ V (40 + f.toNat) = 126) ∨ (t < 0 ∨ szV V ≤ t ∨ V (40 + t.toNat) = 126))) ∨ (((0 ≤ b ∧ b ≤ 3) ∧ (0 ≤ f ∧ f < szV V ∧ V (40 + f.toNat) ≠ 126) ∧ (0 ≤ t ∧ t < szV V ∧ V (40 + t.toNat) ≠ 126)) ∧ ((z = -6 ∧ ¬ wV V (V (8 + 4 * b.toNat + 0)) t.toNat 36 f.toNat) ∨ ∃ d : Nat, d ≤ 36 ∧ frV V (V (8 + 4 * b.toNat + 0)) t.toNat d f.toNat ∧ ((i = -1 ∧ z = d) ∨ (i ≠ -1 ∧ (i < 0 ∨ (d : Int) ≤ i) ∧ z = -6) ∨ ((0 ≤ i ∧ i < d) ∧ ∃ c : Nat, ptV V (V (8 + 4 * b.toNat + 0)) t.toNat d f.toNat (i.toNat + 1) c ∧ z = c))))
theorem U_far {V : Nat → Int} {b f t i z z2 : Int} (h : farP V b f t i z) (g : farP V b f t i z2) : z2 = z := by
  rcases h with h | ⟨h0, h⟩ <;> rcases g with g | ⟨g0, g⟩
  · omega
  · exfalso; clear g; omega
  · exfalso; clear h; omega
  · rcases h with h | ⟨d, hd, h1, h2⟩ <;> rcases g with g | ⟨e, he, g1, g2⟩
    · omega
    · exact absurd (wV_le he g1.1) h.2
    · exact absurd (wV_le hd h1.1) g.2
    · have q := frV_un h1 g1
      subst q
      rcases h2 with h2 | h2 | ⟨h3, c, h4, h5⟩ <;> rcases g2 with g2 | g2 | ⟨g3, c2, g4, g5⟩
      · omega
      · omega
      · omega
      · omega
      · omega
      · omega
      · omega
      · omega
      · rw [h5, g5, ptV_un g4 h4]
theorem e_ntL {d : Nat} {w : am_W} (y : Int64) (lf a : Int32) (J : ab_J ab_TT ab_sets ab_WR w w) : ∀ (m : Nat) (c : Int32), (36 - c.toInt).toNat < m → 0 ≤ c.toInt → c.toInt ≤ 36 → (∀ j : Nat, (j : Int) < c.toInt → ¬ (bt (n64 y) j = 1 ∧ rI w 19 j = lf.toInt)) → aw none (d + 1) 26 (fun r w1 => w = w1 ∧ ∃ z : Int32, r = some (.int z) ∧ ((0 ≤ z.toInt ∧ z.toInt < 36 ∧ bt (n64 y) z.toInt.toNat = 1 ∧ rI w 19 z.toInt.toNat = lf.toInt ∧ ∀ j : Nat, (j : Int) < z.toInt → ¬ (bt (n64 y) j = 1 ∧ rI w 19 j = lf.toInt)) ∨ ∀ j : Nat, j < 36 → ¬ (bt (n64 y) j = 1 ∧ rI w 19 j = lf.toInt))) (3, [some (.ref 18), some (.long y), none, some (.int lf), some (.int a), some (.int c)], []) w := by
  intro m
  induction m with
  | zero => intro c p; omega
  | succ m ih =>
    intro c p1 p2 p3 F
    refine aw_step (f1 := (5, [some (.ref 18), some (.long y), none, some (.int lf), some (.int a), some (.int c)], [(.int c)])) (w1 := w) rfl rfl ?_
    refine s_i (pc1 := 7) (ls1 := [some (.ref 18), some (.long y), none, some (.int lf), some (.int a), some (.int c)]) (st1 := [(.int c)]) rfl rfl fun x1 e2 => ?_
    have e2t : x1.toInt = 36 := by rw [e2]; rfl
    refine s_ic 39 10 rfl rfl rfl (fun (h3 : x1.toInt ≤ c.toInt) => ?_) (fun (h3 : ¬ (x1.toInt ≤ c.toInt)) => ?_)
    · --
      refine aw_step (f1 := (41, [some (.ref 18), some (.long y), none, some (.int lf), some (.int a), some (.int c)], [(.int a)])) (w1 := w) rfl rfl ?_
      refine aw_ret (v := some (.int a)) rfl rfl ?_
      first
        | exact ⟨rfl, a, rfl, Or.inl ⟨by omega, by omega, by omega, by omega, fun j hj => F j (by omega)⟩⟩
        | exact ⟨rfl, a, rfl, Or.inr (fun j hj => F j (by omega))⟩
    · --
      refine aw_step (f1 := (11, [some (.ref 18), some (.long y), none, some (.int lf), some (.int a), some (.int c)], [(.long y)])) (w1 := w) rfl rfl ?_
      refine aw_step (f1 := (13, [some (.ref 18), some (.long y), none, some (.int lf), some (.int a), some (.int c)], [(.int c), (.long y)])) (w1 := w) rfl rfl ?_
      refine s_cs (z := 105) (as := [(.long y), (.int c)]) (st1 := []) 16 rfl rfl rfl rfl rfl rfl (Nat.le_of_ble_eq_true rfl) (Nat.le_of_ble_eq_true rfl) (Nat.le_of_ble_eq_true rfl) (q_hasC y c (by omega) (by omega)) ?_
      rintro _ _ ⟨rfl, x4, rfl, x4t⟩
      refine ⟨rfl, ?_⟩
      show aw none _ 26 _ (16, [some (.ref 18), some (.long y), none, some (.int lf), some (.int a), some (.int c)], [(.int x4)]) w
      have x4l := bt_le (n64 y) c.toInt.toNat
      refine s_if 33 19 rfl rfl rfl (fun (h5 : x4.toInt = 0) => ?_) (fun (h5 : ¬ (x4.toInt = 0)) => ?_)
      · --
        refine aw_step (f1 := (36, [some (.ref 18), some (.long y), none, some (.int lf), some (.int a), some (.int (c + Int32.ofInt 1))], [])) (w1 := w) rfl rfl ?_
        obtain ⟨x6, x6e⟩ : ∃ z, z = (c + Int32.ofInt 1) := ⟨_, rfl⟩
        have x6t : x6.toInt = c.toInt + (1) := by rw [x6e]; exact n_add (y := Int32.ofInt (1)) (by show _ ≤ _ + (1 : Int); omega) (by show _ + (1 : Int) ≤ _; omega)
        rw [← x6e]
        refine aw_step (f1 := (3, [some (.ref 18), some (.long y), none, some (.int lf), some (.int a), some (.int x6)], [])) (w1 := w) rfl rfl ?_
        refine ih x6 (by omega) (by omega) (by omega) (fun j hj => ?_)
        by_cases q : j = c.toInt.toNat
        · rw [q]; omega
        · exact F j (by omega)
      · --
        refine aw_step (f1 := (20, [some (.ref 18), some (.long y), none, some (.int lf), some (.int a), some (.int c)], [(.ref 18)])) (w1 := w) rfl rfl ?_
        refine s_gr 19 J 23 rfl rfl rfl rfl rfl rfl ?_
        refine aw_step (f1 := (25, [some (.ref 18), some (.long y), none, some (.int lf), some (.int a), some (.int c)], [(.int c), (.ref 19)])) (w1 := w) rfl rfl ?_
        refine s_ia J 26 rfl rfl rfl rfl (by omega) (by omega) fun x7 x7a x7b x7f => ?_
        have x7v : x7.toInt = rI w 19 c.toInt.toNat := by rw [← rI_of x7f]
        refine aw_step (f1 := (27, [some (.ref 18), some (.long y), none, some (.int lf), some (.int a), some (.int c)], [(.int lf), (.int x7)])) (w1 := w) rfl rfl ?_
        refine s_ic 33 30 rfl rfl rfl (fun (h8 : ¬ x7.toInt = lf.toInt) => ?_) (fun (h8 : ¬ (¬ x7.toInt = lf.toInt)) => ?_)
        · --
          refine aw_step (f1 := (36, [some (.ref 18), some (.long y), none, some (.int lf), some (.int a), some (.int (c + Int32.ofInt 1))], [])) (w1 := w) rfl rfl ?_
          obtain ⟨x9, x9e⟩ : ∃ z, z = (c + Int32.ofInt 1) := ⟨_, rfl⟩
          have x9t : x9.toInt = c.toInt + (1) := by rw [x9e]; exact n_add (y := Int32.ofInt (1)) (by show _ ≤ _ + (1 : Int); omega) (by show _ + (1 : Int) ≤ _; omega)
          rw [← x9e]
          refine aw_step (f1 := (3, [some (.ref 18), some (.long y), none, some (.int lf), some (.int a), some (.int x9)], [])) (w1 := w) rfl rfl ?_
          refine ih x9 (by omega) (by omega) (by omega) (fun j hj => ?_)
          by_cases q : j = c.toInt.toNat
          · rw [q]; omega
          · exact F j (by omega)
        · --
          refine aw_step (f1 := (32, [some (.ref 18), some (.long y), none, some (.int lf), some (.int a), some (.int c)], [(.int c)])) (w1 := w) rfl rfl ?_
          refine aw_ret (v := some (.int c)) rfl rfl ?_
          first
            | exact ⟨rfl, c, rfl, Or.inl ⟨by omega, by omega, by omega, by omega, fun j hj => F j (by omega)⟩⟩
            | exact ⟨rfl, c, rfl, Or.inr (fun j hj => F j (by omega))⟩
theorem e_next {d : Nat} {w : am_W} (y : Int64) (lf a : Int32) (I : ab_inv ab_TT ab_sets w) : aw none (d + 1) 26 (fun r w1 => w = w1 ∧ ∃ z : Int32, r = some (.int z) ∧ ((0 ≤ z.toInt ∧ z.toInt < 36 ∧ bt (n64 y) z.toInt.toNat = 1 ∧ rI w 19 z.toInt.toNat = lf.toInt ∧ ∀ j : Nat, (j : Int) < z.toInt → ¬ (bt (n64 y) j = 1 ∧ rI w 19 j = lf.toInt)) ∨ ∀ j : Nat, j < 36 → ¬ (bt (n64 y) j = 1 ∧ rI w 19 j = lf.toInt))) (0, am_entry 26 [.ref 18, .long y, .int lf, .int a], []) w := by
  have J : ab_J ab_TT ab_sets ab_WR w w := ⟨I, ab_fr.rf⟩
  show aw none (d + 1) 26 _ (0, [some (.ref 18), some (.long y), none, some (.int lf), some (.int a), none], []) w
  refine s_i (pc1 := 1) (ls1 := [some (.ref 18), some (.long y), none, some (.int lf), some (.int a), none]) (st1 := []) rfl rfl fun x1 e2 => ?_
  have e2t : x1.toInt = 0 := by rw [e2]; rfl
  refine aw_step (f1 := (3, [some (.ref 18), some (.long y), none, some (.int lf), some (.int a), some (.int x1)], [])) (w1 := w) rfl rfl ?_
  exact e_ntL y lf a J 37 x1 (by omega) (by omega) (by omega) (fun j hj => by omega)
theorem dcV_fr {V : Nat → Int} {L : Int} {t : Nat} {r : Nat → Int} (h : dcV V L t 36 r) {d j : Nat} (hj : j < 36) : r j = (d : Int) ↔ frV V L t d j ∧ d ≤ 36 := by
  rcases h j hj with a | ⟨e, a, b, c⟩
  · constructor
    · intro z; omega
    · intro z; exact absurd (wV_le z.2 z.1.1) a.2
  · constructor
    · intro z; rw [show d = e by omega]; exact ⟨c, b⟩
    · intro z; rw [a, frV_un c z.1]
theorem e_foL {d t D : Nat} {w : am_W} {V : Nat → Int} (R : RCs w 3 V) (L f k : Int32) (hL : 1 ≤ L.toInt ∧ L.toInt ≤ 50) (hf : 0 ≤ f.toInt ∧ f.toInt < szV V) (ht : (t : Int) < szV V ∧ V (40 + t) ≠ 126) (hd : dcV V L.toInt t 36 (rI w 19)) (hfr : frV V L.toInt t D f.toInt.toNat) (hD : D ≤ 36) (hk : 0 ≤ k.toInt ∧ k.toInt ≤ D) (I : ab_inv ab_TT ab_sets w) (J : ab_J ab_TT ab_sets ab_WR w w) : ∀ (m : Nat) (a n : Int32), (k.toInt - n.toInt).toNat < m → 0 ≤ n.toInt → n.toInt ≤ k.toInt → n.toInt ≤ 36 → (0 ≤ a.toInt ∧ a.toInt < szV V) → ptV V L.toInt t D f.toInt.toNat n.toInt.toNat a.toInt.toNat → aw none (d + 2) 25 (fun r w1 => w = w1 ∧ ∃ z : Int32, r = some (.int z) ∧ 0 ≤ z.toInt ∧ ptV V L.toInt t D f.toInt.toNat k.toInt.toNat z.toInt.toNat) (6, [some (.ref 18), some (.ref 3), some (.int L), some (.int f), some (.int k), some (.int a), some (.int n)], []) w := by
  have szc := szC_in I
  have hsz := R.sz
  intro m
  induction m with
  | zero => intro a n p; omega
  | succ m ih =>
    intro a n p1 p2 p3 p4 p5 F
    refine aw_step (f1 := (8, [some (.ref 18), some (.ref 3), some (.int L), some (.int f), some (.int k), some (.int a), some (.int n)], [(.int n)])) (w1 := w) rfl rfl ?_
    refine s_i (pc1 := 10) (ls1 := [some (.ref 18), some (.ref 3), some (.int L), some (.int f), some (.int k), some (.int a), some (.int n)]) (st1 := [(.int n)]) rfl rfl fun x1 e2 => ?_
    have e2t : x1.toInt = 36 := by rw [e2]; rfl
    refine s_ic 50 13 rfl rfl rfl (fun (h3 : x1.toInt ≤ n.toInt) => ?_) (fun (h3 : ¬ (x1.toInt ≤ n.toInt)) => ?_)
    · --
      refine aw_step (f1 := (52, [some (.ref 18), some (.ref 3), some (.int L), some (.int f), some (.int k), some (.int a), some (.int n)], [(.int a)])) (w1 := w) rfl rfl ?_
      refine aw_ret (v := some (.int a)) rfl rfl ?_
      rw [show n.toInt.toNat = k.toInt.toNat by omega] at F
      exact ⟨rfl, a, rfl, by omega, F⟩
    · --
      refine aw_step (f1 := (15, [some (.ref 18), some (.ref 3), some (.int L), some (.int f), some (.int k), some (.int a), some (.int n)], [(.int n)])) (w1 := w) rfl rfl ?_
      refine aw_step (f1 := (17, [some (.ref 18), some (.ref 3), some (.int L), some (.int f), some (.int k), some (.int a), some (.int n)], [(.int k), (.int n)])) (w1 := w) rfl rfl ?_
      refine s_ic 50 20 rfl rfl rfl (fun (h4 : k.toInt ≤ n.toInt) => ?_) (fun (h4 : ¬ (k.toInt ≤ n.toInt)) => ?_)
      · --
        refine aw_step (f1 := (52, [some (.ref 18), some (.ref 3), some (.int L), some (.int f), some (.int k), some (.int a), some (.int n)], [(.int a)])) (w1 := w) rfl rfl ?_
        refine aw_ret (v := some (.int a)) rfl rfl ?_
        rw [show n.toInt.toNat = k.toInt.toNat by omega] at F
        exact ⟨rfl, a, rfl, by omega, F⟩
      · --
        have ap := ptV_fr hfr (by omega) F
        have al := wV_ld ht ap.1
        refine aw_step (f1 := (21, [some (.ref 18), some (.ref 3), some (.int L), some (.int f), some (.int k), some (.int a), some (.int n)], [(.ref 18)])) (w1 := w) rfl rfl ?_
        refine aw_step (f1 := (22, [some (.ref 18), some (.ref 3), some (.int L), some (.int f), some (.int k), some (.int a), some (.int n)], [(.ref 3), (.ref 18)])) (w1 := w) rfl rfl ?_
        refine aw_step (f1 := (23, [some (.ref 18), some (.ref 3), some (.int L), some (.int f), some (.int k), some (.int a), some (.int n)], [(.int L), (.ref 3), (.ref 18)])) (w1 := w) rfl rfl ?_
        refine aw_step (f1 := (25, [some (.ref 18), some (.ref 3), some (.int L), some (.int f), some (.int k), some (.int a), some (.int n)], [(.int a), (.int L), (.ref 3), (.ref 18)])) (w1 := w) rfl rfl ?_
        refine s_cv (z := 44) (p := 3) (as := [(.int L), (.int a)]) (st1 := [(.ref 18)]) J 28 rfl rfl rfl rfl rfl rfl rfl rfl (Nat.le_of_ble_eq_true rfl) (Nat.le_of_ble_eq_true rfl) (e_reach R L a ⟨by omega, by omega⟩ ⟨by omega, by omega⟩ J.1) ?_
        rintro _ _ ⟨rfl, y5, rfl, y5t⟩
        refine ⟨rfl, ?_⟩
        show aw none _ 25 _ (28, [some (.ref 18), some (.ref 3), some (.int L), some (.int f), some (.int k), some (.int a), some (.int n)], [(.long y5), (.ref 18)]) w
        refine aw_step (f1 := (29, [some (.ref 18), some (.ref 3), some (.int L), some (.int f), some (.int k), some (.int a), some (.int n)], [(.ref 18), (.long y5), (.ref 18)])) (w1 := w) rfl rfl ?_
        refine s_gr 19 J 32 rfl rfl rfl rfl rfl rfl ?_
        refine aw_step (f1 := (34, [some (.ref 18), some (.ref 3), some (.int L), some (.int f), some (.int k), some (.int a), some (.int n)], [(.int a), (.ref 19), (.long y5), (.ref 18)])) (w1 := w) rfl rfl ?_
        refine s_ia J 35 rfl rfl rfl rfl (by omega) (by omega) fun x6 x6a x6b x6f => ?_
        have x6v : x6.toInt = rI w 19 a.toInt.toNat := by rw [← rI_of x6f]
        have hx : x6.toInt = ((D - n.toInt.toNat : Nat) : Int) := by rw [x6v]; exact (dcV_fr hd (by omega)).mpr ⟨ap, by omega⟩
        refine s_i (pc1 := 36) (ls1 := [some (.ref 18), some (.ref 3), some (.int L), some (.int f), some (.int k), some (.int a), some (.int n)]) (st1 := [(.int x6), (.long y5), (.ref 18)]) rfl rfl fun x7 e8 => ?_
        have e8t : x7.toInt = 1 := by rw [e8]; rfl
        refine s_i (pc1 := 37) (ls1 := [some (.ref 18), some (.ref 3), some (.int L), some (.int f), some (.int k), some (.int a), some (.int n)]) (st1 := [(.long y5), (.ref 18)]) rfl rfl fun x9 e10 => ?_
        have e10 : x9 = x6 - x7 := e10
        have e10t : x9.toInt = x6.toInt - x7.toInt := by rw [e10]; exact n_sub (by omega) (by omega)
        refine aw_step (f1 := (39, [some (.ref 18), some (.ref 3), some (.int L), some (.int f), some (.int k), some (.int a), some (.int n)], [(.int a), (.int x9), (.long y5), (.ref 18)])) (w1 := w) rfl rfl ?_
        refine s_cv (z := 26) (p := 18) (as := [(.long y5), (.int x9), (.int a)]) (st1 := []) J 42 rfl rfl rfl rfl rfl rfl rfl rfl (Nat.le_of_ble_eq_true rfl) (Nat.le_of_ble_eq_true rfl) (e_next y5 x9 a J.1) ?_
        rintro _ _ ⟨rfl, x11, rfl, x11t⟩
        refine ⟨rfl, ?_⟩
        show aw none _ 25 _ (42, [some (.ref 18), some (.ref 3), some (.int L), some (.int f), some (.int k), some (.int a), some (.int n)], [(.int x11)]) w
        refine aw_step (f1 := (44, [some (.ref 18), some (.ref 3), some (.int L), some (.int f), some (.int k), some (.int x11), some (.int n)], [])) (w1 := w) rfl rfl ?_
        refine aw_step (f1 := (47, [some (.ref 18), some (.ref 3), some (.int L), some (.int f), some (.int k), some (.int x11), some (.int (n + Int32.ofInt 1))], [])) (w1 := w) rfl rfl ?_
        obtain ⟨x12, x12e⟩ : ∃ z, z = (n + Int32.ofInt 1) := ⟨_, rfl⟩
        have x12t : x12.toInt = n.toInt + (1) := by rw [x12e]; exact n_add (y := Int32.ofInt (1)) (by show _ ≤ _ + (1 : Int); omega) (by show _ + (1 : Int) ≤ _; omega)
        rw [← x12e]
        refine aw_step (f1 := (6, [some (.ref 18), some (.ref 3), some (.int L), some (.int f), some (.int k), some (.int x11), some (.int x12)], [])) (w1 := w) rfl rfl ?_
        have ex := frV_pre ht (d := D - n.toInt.toNat - 1) (by rw [show D - n.toInt.toNat - 1 + 1 = D - n.toInt.toNat by omega]; exact ap)
        have le := fun j => lsV_e (by have q := y5t; rw [← show ((a.toInt.toNat : Nat) : Int) = a.toInt by omega] at q; exact q) j
        have lx : x9.toInt = ((D - n.toInt.toNat - 1 : Nat) : Int) := by omega
        have eq : ∀ j : Nat, j < 36 → ((bt (n64 y5) j = 1 ∧ rI w 19 j = x9.toInt) ↔ (eV V L.toInt a.toInt.toNat j ∧ frV V L.toInt t (D - n.toInt.toNat - 1) j)) := fun j hj => by
          rw [lx, le j, dcV_fr hd hj]
          exact ⟨fun z => ⟨z.1, z.2.1⟩, fun z => ⟨z.1, z.2, by omega⟩⟩
        rcases x11t with q | q
        · refine ih x11 x12 (by omega) (by omega) (by omega) (by omega) ⟨by omega, by have := ((eq _ (by omega)).mp ⟨q.2.2.1, q.2.2.2.1⟩).1.1.1; omega⟩ ?_
          rw [show x12.toInt.toNat = n.toInt.toNat + 1 by omega]
          exact ⟨a.toInt.toNat, F, (eq _ (by omega)).mp ⟨q.2.2.1, q.2.2.2.1⟩, fun j hj z => q.2.2.2.2 j (by omega) ((eq j (by omega)).mpr z)⟩
        · obtain ⟨i, i1, i2⟩ := ex
          exact absurd ((eq i (by have := i1.1.1; omega)).mpr ⟨i1, i2⟩) (q i (by have := i1.1.1; omega))
theorem e_follow {d t D : Nat} {w : am_W} {V : Nat → Int} (R : RCs w 3 V) (L f k : Int32) (hL : 1 ≤ L.toInt ∧ L.toInt ≤ 50) (hf : 0 ≤ f.toInt ∧ f.toInt < szV V) (ht : (t : Int) < szV V ∧ V (40 + t) ≠ 126) (hd : dcV V L.toInt t 36 (rI w 19)) (hfr : frV V L.toInt t D f.toInt.toNat) (hD : D ≤ 36) (hk : 0 ≤ k.toInt ∧ k.toInt ≤ D) (I : ab_inv ab_TT ab_sets w) : aw none (d + 2) 25 (fun r w1 => w = w1 ∧ ∃ z : Int32, r = some (.int z) ∧ 0 ≤ z.toInt ∧ ptV V L.toInt t D f.toInt.toNat k.toInt.toNat z.toInt.toNat) (0, am_entry 25 [.ref 18, .ref 3, .int L, .int f, .int k], []) w := by
  have J : ab_J ab_TT ab_sets ab_WR w w := ⟨I, ab_fr.rf⟩
  show aw none (d + 2) 25 _ (0, [some (.ref 18), some (.ref 3), some (.int L), some (.int f), some (.int k), none, none], []) w
  refine aw_step (f1 := (1, [some (.ref 18), some (.ref 3), some (.int L), some (.int f), some (.int k), none, none], [(.int f)])) (w1 := w) rfl rfl ?_
  refine aw_step (f1 := (3, [some (.ref 18), some (.ref 3), some (.int L), some (.int f), some (.int k), some (.int f), none], [])) (w1 := w) rfl rfl ?_
  refine s_i (pc1 := 4) (ls1 := [some (.ref 18), some (.ref 3), some (.int L), some (.int f), some (.int k), some (.int f), none]) (st1 := []) rfl rfl fun x1 e2 => ?_
  have e2t : x1.toInt = 0 := by rw [e2]; rfl
  refine aw_step (f1 := (6, [some (.ref 18), some (.ref 3), some (.int L), some (.int f), some (.int k), some (.int f), some (.int x1)], [])) (w1 := w) rfl rfl ?_
  exact e_foL R L f k hL hf ht hd hfr hD hk I J 38 f x1 (by omega) (by omega) (by omega) (by omega) hf (by rw [show x1.toInt.toNat = 0 by omega]; exact rfl)
theorem e_far {d : Nat} {w : am_W} {V : Nat → Int} (R : RCs w 3 V) (b f t i : Int32) (I : ab_inv ab_TT ab_sets w) : aw none (d + 5) 73 (fun r w1 => ab_J ab_TT ab_sets ab_WR w w1 ∧ ∃ z : Int32, r = some (.int z) ∧ farP V b.toInt f.toInt t.toInt i.toInt z.toInt) (0, am_entry 73 [.ref 0, .int b, .int f, .int t, .int i], []) w := by
  have J : ab_J ab_TT ab_sets ab_WR w w := ⟨I, ab_fr.rf⟩
  have szc := szC_in I
  have hsz := R.sz
  have ia := ab_any32 i
  unfold ab_lo32 ab_hi32 at ia
  show aw none (d + 5) 73 _ (0, [some (.ref 0), some (.int b), some (.int f), some (.int t), some (.int i), none, none], []) w
  refine aw_step (f1 := (1, [some (.ref 0), some (.int b), some (.int f), some (.int t), some (.int i), none, none], [(.ref 0)])) (w1 := w) rfl rfl ?_
  refine aw_step (f1 := (2, [some (.ref 0), some (.int b), some (.int f), some (.int t), some (.int i), none, none], [(.int b), (.ref 0)])) (w1 := w) rfl rfl ?_
  refine aw_step (f1 := (3, [some (.ref 0), some (.int b), some (.int f), some (.int t), some (.int i), none, none], [(.int f), (.int b), (.ref 0)])) (w1 := w) rfl rfl ?_
  refine aw_step (f1 := (4, [some (.ref 0), some (.int b), some (.int f), some (.int t), some (.int i), none, none], [(.int t), (.int f), (.int b), (.ref 0)])) (w1 := w) rfl rfl ?_
  refine s_cv (z := 97) (p := 0) (as := [(.int b), (.int f), (.int t)]) (st1 := []) J 7 rfl rfl rfl rfl rfl rfl rfl rfl (Nat.le_of_ble_eq_true rfl) (Nat.le_of_ble_eq_true rfl) (e_canTravel R b f t J.1) ?_
  rintro _ _ ⟨rfl, x1, rfl, x1t⟩
  refine ⟨rfl, ?_⟩
  show aw none _ 73 _ (7, [some (.ref 0), some (.int b), some (.int f), some (.int t), some (.int i), none, none], [(.int x1)]) w
  refine s_if 12 10 rfl rfl rfl (fun (h2 : ¬ x1.toInt = 0) => ?_) (fun (h2 : ¬ (¬ x1.toInt = 0)) => ?_)
  · --
    refine aw_step (f1 := (13, [some (.ref 0), some (.int b), some (.int f), some (.int t), some (.int i), none, none], [(.ref 0)])) (w1 := w) rfl rfl ?_
    refine s_gr 3 J 16 rfl rfl rfl rfl rfl rfl ?_
    refine s_gr 7 J 19 rfl rfl rfl rfl rfl rfl ?_
    refine aw_step (f1 := (20, [some (.ref 0), some (.int b), some (.int f), some (.int t), some (.int i), none, none], [(.int b), (.ref 7)])) (w1 := w) rfl rfl ?_
    refine s_ia J 21 rfl rfl rfl rfl (by omega) (by omega) fun x3 x3a x3b x3f => ?_
    have x3v : x3.toInt = rI w 7 b.toInt.toNat := by rw [← rI_of x3f]
    have hl : x3.toInt = V (8 + 4 * b.toInt.toNat + 0) := by rw [x3v]; exact R.rv (r := 4) (i := b.toInt.toNat) (by decide) (by decide) (by omega) (by show b.toInt.toNat < 4; omega)
    refine aw_step (f1 := (23, [some (.ref 0), some (.int b), some (.int f), some (.int t), some (.int i), some (.int x3), none], [])) (w1 := w) rfl rfl ?_
    refine aw_step (f1 := (24, [some (.ref 0), some (.int b), some (.int f), some (.int t), some (.int i), some (.int x3), none], [(.ref 0)])) (w1 := w) rfl rfl ?_
    refine s_gr 18 J 27 rfl rfl rfl rfl rfl rfl ?_
    refine aw_step (f1 := (28, [some (.ref 0), some (.int b), some (.int f), some (.int t), some (.int i), some (.int x3), none], [(.ref 0), (.ref 18)])) (w1 := w) rfl rfl ?_
    refine s_gr 3 J 31 rfl rfl rfl rfl rfl rfl ?_
    refine aw_step (f1 := (33, [some (.ref 0), some (.int b), some (.int f), some (.int t), some (.int i), some (.int x3), none], [(.int x3), (.ref 3), (.ref 18)])) (w1 := w) rfl rfl ?_
    refine aw_step (f1 := (34, [some (.ref 0), some (.int b), some (.int f), some (.int t), some (.int i), some (.int x3), none], [(.int t), (.int x3), (.ref 3), (.ref 18)])) (w1 := w) rfl rfl ?_
    refine s_cv (z := 22) (p := 18) (as := [(.ref 3), (.int x3), (.int t)]) (st1 := []) J 37 rfl rfl rfl rfl rfl rfl rfl rfl (Nat.le_of_ble_eq_true rfl) (Nat.le_of_ble_eq_true rfl) (e_measure R x3 t ⟨by omega, by omega⟩ ⟨by omega, by omega⟩ J.1) ?_
    rintro _ w5 ⟨J6c, w5o, y4, rfl, y4t, w5p⟩
    have J6 := J.trans J6c
    refine ⟨am_len2 J J6c, ?_⟩
    show aw none _ 73 _ (37, [some (.ref 0), some (.int b), some (.int f), some (.int t), some (.int i), some (.int x3), none], [(.long y4)]) w5
    have R2 := R.of w5o (by decide)
    have dc := w5p
    refine aw_step (f1 := (38, [some (.ref 0), some (.int b), some (.int f), some (.int t), some (.int i), some (.int x3), none], [])) (w1 := w5) rfl rfl ?_
    refine aw_step (f1 := (39, [some (.ref 0), some (.int b), some (.int f), some (.int t), some (.int i), some (.int x3), none], [(.ref 0)])) (w1 := w5) rfl rfl ?_
    refine s_gr 18 J6 42 rfl rfl rfl rfl rfl rfl ?_
    refine s_gr 19 J6 45 rfl rfl rfl rfl rfl rfl ?_
    refine aw_step (f1 := (46, [some (.ref 0), some (.int b), some (.int f), some (.int t), some (.int i), some (.int x3), none], [(.int f), (.ref 19)])) (w1 := w5) rfl rfl ?_
    refine s_ia J6 47 rfl rfl rfl rfl (by omega) (by omega) fun x7 x7a x7b x7f => ?_
    --
    have htl : ((t.toInt.toNat : Nat) : Int) < szV V ∧ V (40 + t.toInt.toNat) ≠ 126 := ⟨by omega, by omega⟩
    have sx : rI w5 19 f.toInt.toNat = x7.toInt := rI_of x7f
    have cs := dc f.toInt.toNat (by omega)
    rw [sx] at cs
    have hcs : (x7.toInt = -6 ∧ ¬ wV V (V (8 + 4 * b.toInt.toNat + 0)) t.toInt.toNat 36 f.toInt.toNat) ∨ (0 ≤ x7.toInt ∧ x7.toInt ≤ 36 ∧ frV V (V (8 + 4 * b.toInt.toNat + 0)) t.toInt.toNat x7.toInt.toNat f.toInt.toNat) := by
      rcases cs with q | ⟨e, q1, q2, q3⟩
      · rw [hl] at q; exact Or.inl q
      · rw [hl] at q3; exact Or.inr ⟨by omega, by omega, by rw [show x7.toInt.toNat = e by omega]; exact q3⟩
    clear cs
    refine aw_step (f1 := (49, [some (.ref 0), some (.int b), some (.int f), some (.int t), some (.int i), some (.int x3), some (.int x7)], [])) (w1 := w5) rfl rfl ?_
    refine aw_step (f1 := (51, [some (.ref 0), some (.int b), some (.int f), some (.int t), some (.int i), some (.int x3), some (.int x7)], [(.int i)])) (w1 := w5) rfl rfl ?_
    refine s_i (pc1 := 52) (ls1 := [some (.ref 0), some (.int b), some (.int f), some (.int t), some (.int i), some (.int x3), some (.int x7)]) (st1 := [(.int i)]) rfl rfl fun x8 e9 => ?_
    have e9t : x8.toInt = -1 := by rw [e9]; rfl
    refine s_ic 62 55 rfl rfl rfl (fun (h10 : i.toInt = x8.toInt) => ?_) (fun (h10 : ¬ (i.toInt = x8.toInt)) => ?_)
    · --
      --
      refine aw_step (f1 := (64, [some (.ref 0), some (.int b), some (.int f), some (.int t), some (.int i), some (.int x3), some (.int x7)], [(.int x7)])) (w1 := w5) rfl rfl ?_
      refine aw_ret (v := some (.int x7)) rfl rfl ?_
      rcases hcs with q | q
      · exact ⟨J6, x7, rfl, Or.inr ⟨⟨⟨by omega, by omega⟩, ⟨by omega, by omega, by omega⟩, ⟨by omega, by omega, by omega⟩⟩, Or.inl ⟨by omega, q.2⟩⟩⟩
      · first
        | exact ⟨J6, x7, rfl, Or.inr ⟨⟨⟨by omega, by omega⟩, ⟨by omega, by omega, by omega⟩, ⟨by omega, by omega, by omega⟩⟩, Or.inr ⟨x7.toInt.toNat, by omega, q.2.2, Or.inl ⟨by omega, by omega⟩⟩⟩⟩
        | exact ⟨J6, x7, rfl, Or.inr ⟨⟨⟨by omega, by omega⟩, ⟨by omega, by omega, by omega⟩, ⟨by omega, by omega, by omega⟩⟩, Or.inr ⟨x7.toInt.toNat, by omega, q.2.2, Or.inr (Or.inl ⟨by omega, by omega, by omega⟩)⟩⟩⟩
    · --
      refine aw_step (f1 := (57, [some (.ref 0), some (.int b), some (.int f), some (.int t), some (.int i), some (.int x3), some (.int x7)], [(.int x7)])) (w1 := w5) rfl rfl ?_
      refine s_i (pc1 := 59) (ls1 := [some (.ref 0), some (.int b), some (.int f), some (.int t), some (.int i), some (.int x3), some (.int x7)]) (st1 := [(.int x7)]) rfl rfl fun x11 e12 => ?_
      have e12t : x11.toInt = -6 := by rw [e12]; rfl
      refine s_ic 65 62 rfl rfl rfl (fun (h13 : ¬ x7.toInt = x11.toInt) => ?_) (fun (h13 : ¬ (¬ x7.toInt = x11.toInt)) => ?_)
      · --
        refine aw_step (f1 := (67, [some (.ref 0), some (.int b), some (.int f), some (.int t), some (.int i), some (.int x3), some (.int x7)], [(.int i)])) (w1 := w5) rfl rfl ?_
        refine s_if 77 70 rfl rfl rfl (fun (h14 : i.toInt < 0) => ?_) (fun (h14 : ¬ (i.toInt < 0)) => ?_)
        · --
          --
          refine s_i (pc1 := 79) (ls1 := [some (.ref 0), some (.int b), some (.int f), some (.int t), some (.int i), some (.int x3), some (.int x7)]) (st1 := []) rfl rfl fun x15 e16 => ?_
          have e16t : x15.toInt = -6 := by rw [e16]; rfl
          refine aw_ret (v := some (.int x15)) rfl rfl ?_
          rcases hcs with q | q
          · exact ⟨J6, x15, rfl, Or.inr ⟨⟨⟨by omega, by omega⟩, ⟨by omega, by omega, by omega⟩, ⟨by omega, by omega, by omega⟩⟩, Or.inl ⟨by omega, q.2⟩⟩⟩
          · first
            | exact ⟨J6, x15, rfl, Or.inr ⟨⟨⟨by omega, by omega⟩, ⟨by omega, by omega, by omega⟩, ⟨by omega, by omega, by omega⟩⟩, Or.inr ⟨x7.toInt.toNat, by omega, q.2.2, Or.inl ⟨by omega, by omega⟩⟩⟩⟩
            | exact ⟨J6, x15, rfl, Or.inr ⟨⟨⟨by omega, by omega⟩, ⟨by omega, by omega, by omega⟩, ⟨by omega, by omega, by omega⟩⟩, Or.inr ⟨x7.toInt.toNat, by omega, q.2.2, Or.inr (Or.inl ⟨by omega, by omega, by omega⟩)⟩⟩⟩
        · --
          refine aw_step (f1 := (72, [some (.ref 0), some (.int b), some (.int f), some (.int t), some (.int i), some (.int x3), some (.int x7)], [(.int i)])) (w1 := w5) rfl rfl ?_
          refine aw_step (f1 := (74, [some (.ref 0), some (.int b), some (.int f), some (.int t), some (.int i), some (.int x3), some (.int x7)], [(.int x7), (.int i)])) (w1 := w5) rfl rfl ?_
          refine s_ic 80 77 rfl rfl rfl (fun (h17 : i.toInt < x7.toInt) => ?_) (fun (h17 : ¬ (i.toInt < x7.toInt)) => ?_)
          · --
            have hq := hcs.resolve_left (fun q => by omega)
            have hfr : frV V x3.toInt t.toInt.toNat x7.toInt.toNat f.toInt.toNat := by rw [hl]; exact hq.2.2
            refine aw_step (f1 := (81, [some (.ref 0), some (.int b), some (.int f), some (.int t), some (.int i), some (.int x3), some (.int x7)], [(.ref 0)])) (w1 := w5) rfl rfl ?_
            refine s_gr 18 J6 84 rfl rfl rfl rfl rfl rfl ?_
            refine aw_step (f1 := (85, [some (.ref 0), some (.int b), some (.int f), some (.int t), some (.int i), some (.int x3), some (.int x7)], [(.ref 0), (.ref 18)])) (w1 := w5) rfl rfl ?_
            refine s_gr 3 J6 88 rfl rfl rfl rfl rfl rfl ?_
            refine aw_step (f1 := (90, [some (.ref 0), some (.int b), some (.int f), some (.int t), some (.int i), some (.int x3), some (.int x7)], [(.int x3), (.ref 3), (.ref 18)])) (w1 := w5) rfl rfl ?_
            refine aw_step (f1 := (91, [some (.ref 0), some (.int b), some (.int f), some (.int t), some (.int i), some (.int x3), some (.int x7)], [(.int f), (.int x3), (.ref 3), (.ref 18)])) (w1 := w5) rfl rfl ?_
            refine aw_step (f1 := (93, [some (.ref 0), some (.int b), some (.int f), some (.int t), some (.int i), some (.int x3), some (.int x7)], [(.int i), (.int f), (.int x3), (.ref 3), (.ref 18)])) (w1 := w5) rfl rfl ?_
            refine s_i (pc1 := 94) (ls1 := [some (.ref 0), some (.int b), some (.int f), some (.int t), some (.int i), some (.int x3), some (.int x7)]) (st1 := [(.int i), (.int f), (.int x3), (.ref 3), (.ref 18)]) rfl rfl fun x18 e19 => ?_
            have e19t : x18.toInt = 1 := by rw [e19]; rfl
            refine s_i (pc1 := 95) (ls1 := [some (.ref 0), some (.int b), some (.int f), some (.int t), some (.int i), some (.int x3), some (.int x7)]) (st1 := [(.int f), (.int x3), (.ref 3), (.ref 18)]) rfl rfl fun x20 e21 => ?_
            have e21 : x20 = i + x18 := e21
            have e21t : x20.toInt = i.toInt + x18.toInt := by rw [e21]; exact n_add (by omega) (by omega)
            refine s_cv (z := 25) (p := 18) (as := [(.ref 3), (.int x3), (.int f), (.int x20)]) (st1 := []) J6 98 rfl rfl rfl rfl rfl rfl rfl rfl (Nat.le_of_ble_eq_true rfl) (Nat.le_of_ble_eq_true rfl) (e_follow (t := t.toInt.toNat) (D := x7.toInt.toNat) R2 x3 f x20 ⟨by omega, by omega⟩ ⟨by omega, by omega⟩ htl dc hfr (by omega) ⟨by omega, by omega⟩ J6.1) ?_
            rintro _ _ ⟨rfl, x22, rfl, x22a, x22t⟩
            refine ⟨rfl, ?_⟩
            show aw none _ 73 _ (98, [some (.ref 0), some (.int b), some (.int f), some (.int t), some (.int i), some (.int x3), some (.int x7)], [(.int x22)]) w5
            --
            refine aw_ret (v := some (.int x22)) rfl rfl ?_
            rw [hl, show x20.toInt.toNat = i.toInt.toNat + 1 by omega] at x22t
            exact ⟨J6, x22, rfl, Or.inr ⟨⟨⟨by omega, by omega⟩, ⟨by omega, by omega, by omega⟩, ⟨by omega, by omega, by omega⟩⟩, Or.inr ⟨x7.toInt.toNat, by omega, hq.2.2, Or.inr (Or.inr ⟨⟨by omega, by omega⟩, _, x22t, by omega⟩)⟩⟩⟩
          · --
            --
            refine s_i (pc1 := 79) (ls1 := [some (.ref 0), some (.int b), some (.int f), some (.int t), some (.int i), some (.int x3), some (.int x7)]) (st1 := []) rfl rfl fun x23 e24 => ?_
            have e24t : x23.toInt = -6 := by rw [e24]; rfl
            refine aw_ret (v := some (.int x23)) rfl rfl ?_
            rcases hcs with q | q
            · exact ⟨J6, x23, rfl, Or.inr ⟨⟨⟨by omega, by omega⟩, ⟨by omega, by omega, by omega⟩, ⟨by omega, by omega, by omega⟩⟩, Or.inl ⟨by omega, q.2⟩⟩⟩
            · first
              | exact ⟨J6, x23, rfl, Or.inr ⟨⟨⟨by omega, by omega⟩, ⟨by omega, by omega, by omega⟩, ⟨by omega, by omega, by omega⟩⟩, Or.inr ⟨x7.toInt.toNat, by omega, q.2.2, Or.inl ⟨by omega, by omega⟩⟩⟩⟩
              | exact ⟨J6, x23, rfl, Or.inr ⟨⟨⟨by omega, by omega⟩, ⟨by omega, by omega, by omega⟩, ⟨by omega, by omega, by omega⟩⟩, Or.inr ⟨x7.toInt.toNat, by omega, q.2.2, Or.inr (Or.inl ⟨by omega, by omega, by omega⟩)⟩⟩⟩
      · --
        --
        refine aw_step (f1 := (64, [some (.ref 0), some (.int b), some (.int f), some (.int t), some (.int i), some (.int x3), some (.int x7)], [(.int x7)])) (w1 := w5) rfl rfl ?_
        refine aw_ret (v := some (.int x7)) rfl rfl ?_
        rcases hcs with q | q
        · exact ⟨J6, x7, rfl, Or.inr ⟨⟨⟨by omega, by omega⟩, ⟨by omega, by omega, by omega⟩, ⟨by omega, by omega, by omega⟩⟩, Or.inl ⟨by omega, q.2⟩⟩⟩
        · first
          | exact ⟨J6, x7, rfl, Or.inr ⟨⟨⟨by omega, by omega⟩, ⟨by omega, by omega, by omega⟩, ⟨by omega, by omega, by omega⟩⟩, Or.inr ⟨x7.toInt.toNat, by omega, q.2.2, Or.inl ⟨by omega, by omega⟩⟩⟩⟩
          | exact ⟨J6, x7, rfl, Or.inr ⟨⟨⟨by omega, by omega⟩, ⟨by omega, by omega, by omega⟩, ⟨by omega, by omega, by omega⟩⟩, Or.inr ⟨x7.toInt.toNat, by omega, q.2.2, Or.inr (Or.inl ⟨by omega, by omega, by omega⟩)⟩⟩⟩
  · --
    refine s_i (pc1 := 11) (ls1 := [some (.ref 0), some (.int b), some (.int f), some (.int t), some (.int i), none, none]) (st1 := []) rfl rfl fun x25 e26 => ?_
    have e26t : x25.toInt = -1 := by rw [e26]; rfl
    refine aw_ret (v := some (.int x25)) rfl rfl ?_
    exact ⟨J, x25, rfl, Or.inl ⟨by omega, by omega⟩⟩
theorem dmV_fr {V : Nat → Int} {L : Int} {t : Nat} {r : Nat → Int} (h : dmV V L t r) (hr : ∀ j : Nat, j < 36 → r j = 100000 ∨ (0 ≤ r j ∧ r j < 36)) {d j : Nat} (hj : j < 36) (hd : d ≤ 36) : r j = (d : Int) ↔ frV V L t d j := by
  have a := hr j hj
  constructor
  · intro z
    refine ⟨h.2 d j hj z (by omega), ?_⟩
    by_cases e : d = 0
    · exact Or.inl e
    · refine Or.inr fun q => ?_
      have := h.1 (d - 1) j (by omega) q
      omega
  · intro z
    have b := h.1 d j (by omega) z.1
    apply Classical.byContradiction
    intro y
    have c := h.2 (r j).toNat j hj (by omega) (by omega)
    rcases z.2 with q | q
    · omega
    · exact q (wV_le (by omega) c)
theorem f_farN {d : Nat} {Q : Option Value → am_W → Prop} {w : am_W} (J : ab_J ab_TT ab_sets ab_WR w w) (b f t i c k : Int32) (hc : 0 ≤ c.toInt ∧ c.toInt < 36) (e : Nat) (h36 : e < 36) (he : bt (rL w 74 c.toInt.toNat) e = 1 ∧ rI w 77 e = rI w 77 c.toInt.toNat - 1) (K : ∀ n : Int32, 0 ≤ n.toInt → n.toInt ≤ e → bt (rL w 74 c.toInt.toNat) n.toInt.toNat = 1 → rI w 77 n.toInt.toNat = rI w 77 c.toInt.toNat - 1 → (∀ j : Nat, (j : Int) < n.toInt → ¬ (bt (rL w 74 c.toInt.toNat) j = 1 ∧ rI w 77 j = rI w 77 c.toInt.toNat - 1)) → aw none (d + 1) 144 Q (140, [some (.ref 65), some (.int b), some (.int f), some (.int t), some (.int i), some (.int c), some (.int k), some (.int n)], []) w) : ∀ (m : Nat) (n : Int32), e - n.toInt.toNat < m → 0 ≤ n.toInt → n.toInt ≤ e → (∀ j : Nat, (j : Int) < n.toInt → ¬ (bt (rL w 74 c.toInt.toNat) j = 1 ∧ rI w 77 j = rI w 77 c.toInt.toNat - 1)) → aw none (d + 1) 144 Q (100, [some (.ref 65), some (.int b), some (.int f), some (.int t), some (.int i), some (.int c), some (.int k), some (.int n)], []) w := by
  have b0 := rI_in J.1 (p := 77) (j := c.toInt.toNat) rfl (by omega)
  intro m
  induction m with
  | zero => intro n p; omega
  | succ m ih =>
    intro n p1 p2 p3 F
    refine aw_step (f1 := (101, [some (.ref 65), some (.int b), some (.int f), some (.int t), some (.int i), some (.int c), some (.int k), some (.int n)], [(.ref 65)])) (w1 := w) rfl rfl ?_
    refine s_gr 74 J 104 rfl rfl rfl rfl rfl rfl ?_
    refine aw_step (f1 := (106, [some (.ref 65), some (.int b), some (.int f), some (.int t), some (.int i), some (.int c), some (.int k), some (.int n)], [(.int c), (.ref 74)])) (w1 := w) rfl rfl ?_
    refine s_la J 107 rfl rfl rfl (by omega) (by omega) fun y1 y1a y1b y1f => ?_
    have hrl := rL_of y1f
    rw [hrl] at he F K ih
    refine aw_step (f1 := (109, [some (.ref 65), some (.int b), some (.int f), some (.int t), some (.int i), some (.int c), some (.int k), some (.int n)], [(.int n), (.long y1)])) (w1 := w) rfl rfl ?_
    refine s_cs (z := 110) (as := [(.long y1), (.int n)]) (st1 := []) 112 rfl rfl rfl rfl rfl rfl (Nat.le_of_ble_eq_true rfl) (Nat.le_of_ble_eq_true rfl) (Nat.le_of_ble_eq_true rfl) (q_has y1 n (by omega) (by omega)) ?_
    rintro _ _ ⟨rfl, x2, rfl, x2t⟩
    refine ⟨rfl, ?_⟩
    show aw none _ 144 _ (112, [some (.ref 65), some (.int b), some (.int f), some (.int t), some (.int i), some (.int c), some (.int k), some (.int n)], [(.int x2)]) w
    have x2l := bt_le (n64 y1) n.toInt.toNat
    refine s_if 134 115 rfl rfl rfl (fun (h3 : x2.toInt = 0) => ?_) (fun (h3 : ¬ (x2.toInt = 0)) => ?_)
    · --
      refine aw_step (f1 := (137, [some (.ref 65), some (.int b), some (.int f), some (.int t), some (.int i), some (.int c), some (.int k), some (.int (n + Int32.ofInt 1))], [])) (w1 := w) rfl rfl ?_
      obtain ⟨x4, x4e⟩ : ∃ z, z = (n + Int32.ofInt 1) := ⟨_, rfl⟩
      have x4t : x4.toInt = n.toInt + (1) := by rw [x4e]; exact n_add (y := Int32.ofInt (1)) (by show _ ≤ _ + (1 : Int); omega) (by show _ + (1 : Int) ≤ _; omega)
      rw [← x4e]
      refine aw_step (f1 := (100, [some (.ref 65), some (.int b), some (.int f), some (.int t), some (.int i), some (.int c), some (.int k), some (.int x4)], [])) (w1 := w) rfl rfl ?_
      have ne : n.toInt.toNat ≠ e := by
        intro z
        rw [← z] at he
        omega
      exact ih x4 (by omega) (by omega) (by omega) (fun j hj => by
        by_cases q : j = n.toInt.toNat
        · rw [q]; omega
        · exact F j (by omega))
    · --
      refine aw_step (f1 := (116, [some (.ref 65), some (.int b), some (.int f), some (.int t), some (.int i), some (.int c), some (.int k), some (.int n)], [(.ref 65)])) (w1 := w) rfl rfl ?_
      refine s_gr 77 J 119 rfl rfl rfl rfl rfl rfl ?_
      refine aw_step (f1 := (121, [some (.ref 65), some (.int b), some (.int f), some (.int t), some (.int i), some (.int c), some (.int k), some (.int n)], [(.int n), (.ref 77)])) (w1 := w) rfl rfl ?_
      refine s_ia J 122 rfl rfl rfl rfl (by omega) (by omega) fun x5 x5a x5b x5f => ?_
      have x5v : x5.toInt = rI w 77 n.toInt.toNat := by rw [← rI_of x5f]
      refine aw_step (f1 := (123, [some (.ref 65), some (.int b), some (.int f), some (.int t), some (.int i), some (.int c), some (.int k), some (.int n)], [(.ref 65), (.int x5)])) (w1 := w) rfl rfl ?_
      refine s_gr 77 J 126 rfl rfl rfl rfl rfl rfl ?_
      refine aw_step (f1 := (128, [some (.ref 65), some (.int b), some (.int f), some (.int t), some (.int i), some (.int c), some (.int k), some (.int n)], [(.int c), (.ref 77), (.int x5)])) (w1 := w) rfl rfl ?_
      refine s_ia J 129 rfl rfl rfl rfl (by omega) (by omega) fun x6 x6a x6b x6f => ?_
      have x6v : x6.toInt = rI w 77 c.toInt.toNat := by rw [← rI_of x6f]
      refine s_i (pc1 := 130) (ls1 := [some (.ref 65), some (.int b), some (.int f), some (.int t), some (.int i), some (.int c), some (.int k), some (.int n)]) (st1 := [(.int x6), (.int x5)]) rfl rfl fun x7 e8 => ?_
      have e8t : x7.toInt = 1 := by rw [e8]; rfl
      refine s_i (pc1 := 131) (ls1 := [some (.ref 65), some (.int b), some (.int f), some (.int t), some (.int i), some (.int c), some (.int k), some (.int n)]) (st1 := [(.int x5)]) rfl rfl fun x9 e10 => ?_
      have e10 : x9 = x6 - x7 := e10
      have e10t : x9.toInt = x6.toInt - x7.toInt := by rw [e10]; exact n_sub (by omega) (by omega)
      refine s_ic 140 134 rfl rfl rfl (fun (h11 : x5.toInt = x9.toInt) => ?_) (fun (h11 : ¬ (x5.toInt = x9.toInt)) => ?_)
      · --
        exact K n (by omega) (by omega) (by omega) (by omega) (fun j hj => F j (by omega))
      · --
        refine aw_step (f1 := (137, [some (.ref 65), some (.int b), some (.int f), some (.int t), some (.int i), some (.int c), some (.int k), some (.int (n + Int32.ofInt 1))], [])) (w1 := w) rfl rfl ?_
        obtain ⟨x12, x12e⟩ : ∃ z, z = (n + Int32.ofInt 1) := ⟨_, rfl⟩
        have x12t : x12.toInt = n.toInt + (1) := by rw [x12e]; exact n_add (y := Int32.ofInt (1)) (by show _ ≤ _ + (1 : Int); omega) (by show _ + (1 : Int) ≤ _; omega)
        rw [← x12e]
        refine aw_step (f1 := (100, [some (.ref 65), some (.int b), some (.int f), some (.int t), some (.int i), some (.int c), some (.int k), some (.int x12)], [])) (w1 := w) rfl rfl ?_
        have ne : n.toInt.toNat ≠ e := by
          intro z
          rw [← z] at he
          omega
        exact ih x12 (by omega) (by omega) (by omega) (fun j hj => by
          by_cases q : j = n.toInt.toNat
          · rw [q]; omega
          · exact F j (by omega))
theorem f_farW {d D : Nat} {w : am_W} {V : Nat → Int} {L : Int} {Q : Option Value → am_W → Prop} (J : ab_J ab_TT ab_sets ab_WR w w) (b f t i : Int32) (lr : lrV V L (rL w 74)) (hr : ∀ j : Nat, j < 36 → rI w 77 j = 100000 ∨ (0 ≤ rI w 77 j ∧ rI w 77 j < 36)) (dm : dmV V L t.toInt.toNat (rI w 77)) (hz : szV V ≤ 36) (ht : ((t.toInt.toNat : Nat) : Int) < szV V ∧ V (40 + t.toInt.toNat) ≠ 126) (hfr : frV V L t.toInt.toNat D f.toInt.toNat) (hD : D ≤ 36) (hi : 0 ≤ i.toInt ∧ i.toInt < D) (K : ∀ c : Int32, 0 ≤ c.toInt → ptV V L t.toInt.toNat D f.toInt.toNat (i.toInt.toNat + 1) c.toInt.toNat → Q (some (.int c)) w) : ∀ (m : Nat) (k c : Int32) (o7 : Option Value), (i.toInt + 1 - k.toInt).toNat < m → 0 ≤ k.toInt → k.toInt ≤ i.toInt + 1 → (0 ≤ c.toInt ∧ c.toInt < szV V) → ptV V L t.toInt.toNat D f.toInt.toNat k.toInt.toNat c.toInt.toNat → aw none (d + 1) 144 Q (90, [some (.ref 65), some (.int b), some (.int f), some (.int t), some (.int i), some (.int c), some (.int k), o7], []) w := by
  intro m
  induction m with
  | zero => intro k c o7 p; omega
  | succ m ih =>
    intro k c o7 p1 p2 p3 p4 F
    refine aw_step (f1 := (92, [some (.ref 65), some (.int b), some (.int f), some (.int t), some (.int i), some (.int c), some (.int k), o7], [(.int k)])) (w1 := w) rfl rfl ?_
    refine aw_step (f1 := (94, [some (.ref 65), some (.int b), some (.int f), some (.int t), some (.int i), some (.int c), some (.int k), o7], [(.int i), (.int k)])) (w1 := w) rfl rfl ?_
    refine s_ic 150 97 rfl rfl rfl (fun (h1 : i.toInt < k.toInt) => ?_) (fun (h1 : ¬ (i.toInt < k.toInt)) => ?_)
    · --
      refine aw_step (f1 := (152, [some (.ref 65), some (.int b), some (.int f), some (.int t), some (.int i), some (.int c), some (.int k), o7], [(.int c)])) (w1 := w) rfl rfl ?_
      refine aw_ret (v := some (.int c)) rfl rfl ?_
      rw [show k.toInt.toNat = i.toInt.toNat + 1 by omega] at F
      exact K c (by omega) F
    · --
      refine s_i (pc1 := 98) (ls1 := [some (.ref 65), some (.int b), some (.int f), some (.int t), some (.int i), some (.int c), some (.int k), o7]) (st1 := []) rfl rfl fun x2 e3 => ?_
      have e3t : x2.toInt = 0 := by rw [e3]; rfl
      refine aw_step (f1 := (100, [some (.ref 65), some (.int b), some (.int f), some (.int t), some (.int i), some (.int c), some (.int k), some (.int x2)], [])) (w1 := w) rfl rfl ?_
      have ap := ptV_fr hfr (by omega) F
      have al := wV_ld ht ap.1
      have rc : rI w 77 c.toInt.toNat = ((D - k.toInt.toNat : Nat) : Int) := (dmV_fr dm hr (by omega) (by omega)).mpr ap
      have eq : ∀ j : Nat, j < 36 → ((bt (rL w 74 c.toInt.toNat) j = 1 ∧ rI w 77 j = rI w 77 c.toInt.toNat - 1) ↔ (eV V L c.toInt.toNat j ∧ frV V L t.toInt.toNat (D - k.toInt.toNat - 1) j)) := fun j hj => by
        rw [rc, show ((D - k.toInt.toNat : Nat) : Int) - 1 = ((D - k.toInt.toNat - 1 : Nat) : Int) by omega, lr c.toInt.toNat j al.1, dmV_fr dm hr hj (by omega)]
        exact ⟨fun z => ⟨z.1.2, z.2⟩, fun z => ⟨⟨al.2, z.1⟩, z.2⟩⟩
      obtain ⟨e, ex1, ex2⟩ := frV_pre ht (d := D - k.toInt.toNat - 1) (by rw [show D - k.toInt.toNat - 1 + 1 = D - k.toInt.toNat by omega]; exact ap)
      have e36 : e < 36 := by have := ex1.1.1; omega
      refine f_farN J b f t i c k ⟨by omega, by omega⟩ e e36 ((eq e e36).mpr ⟨ex1, ex2⟩) (fun n n1 n2 n3 n4 n5 => ?_) (e + 1) x2 (by omega) (by omega) (by omega) (fun j hj => by omega)
      have e1 := (eq n.toInt.toNat (by omega)).mp ⟨n3, n4⟩
      have e2 : ∀ j, j < n.toInt.toNat → ¬ (eV V L c.toInt.toNat j ∧ frV V L t.toInt.toNat (D - k.toInt.toNat - 1) j) := fun j hj z => n5 j (by omega) ((eq j (by omega)).mpr z)
      refine aw_step (f1 := (142, [some (.ref 65), some (.int b), some (.int f), some (.int t), some (.int i), some (.int c), some (.int k), some (.int n)], [(.int n)])) (w1 := w) rfl rfl ?_
      refine aw_step (f1 := (144, [some (.ref 65), some (.int b), some (.int f), some (.int t), some (.int i), some (.int n), some (.int k), some (.int n)], [])) (w1 := w) rfl rfl ?_
      refine aw_step (f1 := (147, [some (.ref 65), some (.int b), some (.int f), some (.int t), some (.int i), some (.int n), some (.int (k + Int32.ofInt 1)), some (.int n)], [])) (w1 := w) rfl rfl ?_
      obtain ⟨zx1, zx1e⟩ : ∃ z, z = (k + Int32.ofInt 1) := ⟨_, rfl⟩
      have zx1t : zx1.toInt = k.toInt + (1) := by rw [zx1e]; exact n_add (y := Int32.ofInt (1)) (by show _ ≤ _ + (1 : Int); omega) (by show _ + (1 : Int) ≤ _; omega)
      rw [← zx1e]
      refine aw_step (f1 := (90, [some (.ref 65), some (.int b), some (.int f), some (.int t), some (.int i), some (.int n), some (.int zx1), some (.int n)], [])) (w1 := w) rfl rfl ?_
      refine ih zx1 n _ (by omega) (by omega) (by omega) ⟨by omega, by have := e1.1.1.1; omega⟩ ?_
      rw [show zx1.toInt.toNat = k.toInt.toNat + 1 by omega]
      exact ⟨c.toInt.toNat, F, e1, e2⟩
theorem f_far {d : Nat} {w : am_W} {V : Nat → Int} (R : RMs w V) (b f t i : Int32) (I : ab_inv ab_TT ab_sets w) : aw none (d + 6) 144 (fun r w1 => ab_J ab_TT ab_sets ab_WR w w1 ∧ ∃ z : Int32, r = some (.int z) ∧ farP V b.toInt f.toInt t.toInt i.toInt z.toInt) (0, am_entry 144 [.ref 65, .int b, .int f, .int t, .int i], []) w := by
  have J : ab_J ab_TT ab_sets ab_WR w w := ⟨I, ab_fr.rf⟩
  have szm := szM_in I
  have hsz := R.sz
  have ia := ab_any32 i
  unfold ab_lo32 ab_hi32 at ia
  have hl0 : ∀ c : Int32, 0 ≤ c.toInt → c.toInt < szV V → rI w 66 c.toInt.toNat = V (40 + c.toInt.toNat) := fun c a b => R.rc (by omega)
  show aw none (d + 6) 144 _ (0, [some (.ref 65), some (.int b), some (.int f), some (.int t), some (.int i), none, none, none], []) w
  refine aw_step (f1 := (1, [some (.ref 65), some (.int b), some (.int f), some (.int t), some (.int i), none, none, none], [(.ref 65)])) (w1 := w) rfl rfl ?_
  refine aw_step (f1 := (2, [some (.ref 65), some (.int b), some (.int f), some (.int t), some (.int i), none, none, none], [(.int b), (.ref 65)])) (w1 := w) rfl rfl ?_
  refine aw_step (f1 := (3, [some (.ref 65), some (.int b), some (.int f), some (.int t), some (.int i), none, none, none], [(.int f), (.int b), (.ref 65)])) (w1 := w) rfl rfl ?_
  refine aw_step (f1 := (4, [some (.ref 65), some (.int b), some (.int f), some (.int t), some (.int i), none, none, none], [(.int t), (.int f), (.int b), (.ref 65)])) (w1 := w) rfl rfl ?_
  refine s_cv (z := 143) (p := 65) (as := [(.int b), (.int f), (.int t)]) (st1 := []) J 7 rfl rfl rfl rfl rfl rfl rfl rfl (Nat.le_of_ble_eq_true rfl) (Nat.le_of_ble_eq_true rfl) (q_isAsked b f t J.1) ?_
  rintro _ _ ⟨rfl, x1, rfl, x1t⟩
  refine ⟨rfl, ?_⟩
  show aw none _ 144 _ (7, [some (.ref 65), some (.int b), some (.int f), some (.int t), some (.int i), none, none, none], [(.int x1)]) w
  have x1s := szM_in J.1
  refine s_if 12 10 rfl rfl rfl (fun (h2 : ¬ x1.toInt = 0) => ?_) (fun (h2 : ¬ (¬ x1.toInt = 0)) => ?_)
  · --
    refine aw_step (f1 := (13, [some (.ref 65), some (.int b), some (.int f), some (.int t), some (.int i), none, none, none], [(.ref 65)])) (w1 := w) rfl rfl ?_
    refine aw_step (f1 := (14, [some (.ref 65), some (.int b), some (.int f), some (.int t), some (.int i), none, none, none], [(.int b), (.ref 65)])) (w1 := w) rfl rfl ?_
    refine s_cv (z := 133) (p := 65) (as := [(.int b)]) (st1 := []) J 17 rfl rfl rfl rfl rfl rfl rfl rfl (Nat.le_of_ble_eq_true rfl) (Nat.le_of_ble_eq_true rfl) (q_putOn b ⟨by omega, by omega⟩ J.1) ?_
    rintro _ w3 ⟨rfl, J4c, w3o, w3p⟩
    have J4 := J.trans J4c
    refine ⟨am_len2 J J4c, ?_⟩
    show aw none _ 144 _ (17, [some (.ref 65), some (.int b), some (.int f), some (.int t), some (.int i), none, none, none], []) w3
    refine aw_step (f1 := (18, [some (.ref 65), some (.int b), some (.int f), some (.int t), some (.int i), none, none, none], [(.ref 65)])) (w1 := w3) rfl rfl ?_
    refine aw_step (f1 := (19, [some (.ref 65), some (.int b), some (.int f), some (.int t), some (.int i), none, none, none], [(.int t), (.ref 65)])) (w1 := w3) rfl rfl ?_
    refine s_cv (z := 142) (p := 65) (as := [(.int t)]) (st1 := []) J4 22 rfl rfl rfl rfl rfl rfl rfl rfl (Nat.le_of_ble_eq_true rfl) (Nat.le_of_ble_eq_true rfl) (q_findFar t ⟨by omega, by omega⟩ J4.1) ?_
    rintro _ w5 ⟨rfl, J6c, w5o, w5p⟩
    have J6 := J4.trans J6c
    refine ⟨am_len2 J4 J6c, ?_⟩
    show aw none _ 144 _ (22, [some (.ref 65), some (.int b), some (.int f), some (.int t), some (.int i), none, none, none], []) w5
    have O1 := w3o
    have O2 := w5o
    have z1 : szM w3 = szV V := by rw [← hsz]; exact O1.sz (by decide)
    have l67 : rI w 67 b.toInt.toNat = V (8 + 4 * b.toInt.toNat + 0) := R.ra (i := b.toInt.toNat) (c := 0) (by omega) (by decide)
    have lr0 := rowM_V R (by omega) w3p
    rw [l67] at lr0
    have fp := w5p
    rw [z1] at fp
    have hla := hl0 f
    have hlb := hl0 t
    have htl : ((t.toInt.toNat : Nat) : Int) < szV V ∧ V (40 + t.toInt.toNat) ≠ 126 := ⟨by omega, by omega⟩
    have dm := fPost_V (by omega) htl lr0 fp
    have hr : ∀ j : Nat, j < 36 → rI w5 77 j = 100000 ∨ (0 ≤ rI w5 77 j ∧ rI w5 77 j < 36) := fun j hj => by have := fp.1 j hj; omega
    have lr : lrV V (V (8 + 4 * b.toInt.toNat + 0)) (rL w5 74) := fun p q hp => by rw [O2.rLe (by decide)]; exact lr0 p q hp
    have hrf := hr f.toInt.toNat (by omega)
    have nw : rI w5 77 f.toInt.toNat = 100000 → ¬ wV V (V (8 + 4 * b.toInt.toNat + 0)) t.toInt.toNat 36 f.toInt.toNat := fun a q => by
      have := (dmV_36 dm hr (j := f.toInt.toNat) (by omega)).mpr q
      omega
    have yw : rI w5 77 f.toInt.toNat < 100000 → frV V (V (8 + 4 * b.toInt.toNat + 0)) t.toInt.toNat (rI w5 77 f.toInt.toNat).toNat f.toInt.toNat := fun a => (dmV_fr dm hr (by omega) (by omega)).mp (by omega)
    refine aw_step (f1 := (23, [some (.ref 65), some (.int b), some (.int f), some (.int t), some (.int i), none, none, none], [(.ref 65)])) (w1 := w5) rfl rfl ?_
    refine s_gr 77 J6 26 rfl rfl rfl rfl rfl rfl ?_
    refine aw_step (f1 := (27, [some (.ref 65), some (.int b), some (.int f), some (.int t), some (.int i), none, none, none], [(.int f), (.ref 77)])) (w1 := w5) rfl rfl ?_
    refine s_ia J6 28 rfl rfl rfl rfl (by omega) (by omega) fun x7 x7a x7b x7f => ?_
    --
    have x7w : x7.toInt = rI w5 77 f.toInt.toNat := (rI_of x7f).symm
    refine s_i (pc1 := 30) (ls1 := [some (.ref 65), some (.int b), some (.int f), some (.int t), some (.int i), none, none, none]) (st1 := [(.int x7)]) rfl rfl fun x8 e9 => ?_
    have e9t : x8.toInt = 100000 := by rw [e9]; rfl
    refine s_ic 39 33 rfl rfl rfl (fun (h10 : x7.toInt = x8.toInt) => ?_) (fun (h10 : ¬ (x7.toInt = x8.toInt)) => ?_)
    · --
      refine aw_step (f1 := (40, [some (.ref 65), some (.int b), some (.int f), some (.int t), some (.int i), none, none, none], [(.ref 65)])) (w1 := w5) rfl rfl ?_
      refine s_gr 77 J6 43 rfl rfl rfl rfl rfl rfl ?_
      refine aw_step (f1 := (44, [some (.ref 65), some (.int b), some (.int f), some (.int t), some (.int i), none, none, none], [(.int f), (.ref 77)])) (w1 := w5) rfl rfl ?_
      refine s_ia J6 45 rfl rfl rfl rfl (by omega) (by omega) fun x11 x11a x11b x11f => ?_
      --
      have x11w : x11.toInt = rI w5 77 f.toInt.toNat := (rI_of x11f).symm
      refine s_i (pc1 := 47) (ls1 := [some (.ref 65), some (.int b), some (.int f), some (.int t), some (.int i), none, none, none]) (st1 := [(.int x11)]) rfl rfl fun x12 e13 => ?_
      have e13t : x12.toInt = 100000 := by rw [e13]; rfl
      refine s_ic 55 50 rfl rfl rfl (fun (h14 : ¬ x11.toInt = x12.toInt) => ?_) (fun (h14 : ¬ (¬ x11.toInt = x12.toInt)) => ?_)
      · --
        refine aw_step (f1 := (56, [some (.ref 65), some (.int b), some (.int f), some (.int t), some (.int i), none, none, none], [(.ref 65)])) (w1 := w5) rfl rfl ?_
        refine s_gr 77 J6 59 rfl rfl rfl rfl rfl rfl ?_
        refine aw_step (f1 := (60, [some (.ref 65), some (.int b), some (.int f), some (.int t), some (.int i), none, none, none], [(.int f), (.ref 77)])) (w1 := w5) rfl rfl ?_
        refine s_ia J6 61 rfl rfl rfl rfl (by omega) (by omega) fun x15 x15a x15b x15f => ?_
        --
        have x15w : x15.toInt = rI w5 77 f.toInt.toNat := (rI_of x15f).symm
        refine aw_ret (v := some (.int x15)) rfl rfl ?_
        first
          | exact ⟨J6, x15, rfl, Or.inr ⟨⟨⟨by omega, by omega⟩, ⟨by omega, by omega, by omega⟩, ⟨by omega, by omega, by omega⟩⟩, Or.inl ⟨by omega, nw (by omega)⟩⟩⟩
          | exact ⟨J6, x15, rfl, Or.inr ⟨⟨⟨by omega, by omega⟩, ⟨by omega, by omega, by omega⟩, ⟨by omega, by omega, by omega⟩⟩, Or.inr ⟨_, by omega, yw (by omega), Or.inl ⟨by omega, by omega⟩⟩⟩⟩
          | exact ⟨J6, x15, rfl, Or.inr ⟨⟨⟨by omega, by omega⟩, ⟨by omega, by omega, by omega⟩, ⟨by omega, by omega, by omega⟩⟩, Or.inr ⟨_, by omega, yw (by omega), Or.inr (Or.inl ⟨by omega, by omega, by omega⟩)⟩⟩⟩
      · --
        refine s_i (pc1 := 52) (ls1 := [some (.ref 65), some (.int b), some (.int f), some (.int t), some (.int i), none, none, none]) (st1 := []) rfl rfl fun x16 e17 => ?_
        have e17t : x16.toInt = -6 := by rw [e17]; rfl
        refine aw_step (f1 := (61, [some (.ref 65), some (.int b), some (.int f), some (.int t), some (.int i), none, none, none], [(.int x16)])) (w1 := w5) rfl rfl ?_
        --
        refine aw_ret (v := some (.int x16)) rfl rfl ?_
        first
          | exact ⟨J6, x16, rfl, Or.inr ⟨⟨⟨by omega, by omega⟩, ⟨by omega, by omega, by omega⟩, ⟨by omega, by omega, by omega⟩⟩, Or.inl ⟨by omega, nw (by omega)⟩⟩⟩
          | exact ⟨J6, x16, rfl, Or.inr ⟨⟨⟨by omega, by omega⟩, ⟨by omega, by omega, by omega⟩, ⟨by omega, by omega, by omega⟩⟩, Or.inr ⟨_, by omega, yw (by omega), Or.inl ⟨by omega, by omega⟩⟩⟩⟩
          | exact ⟨J6, x16, rfl, Or.inr ⟨⟨⟨by omega, by omega⟩, ⟨by omega, by omega, by omega⟩, ⟨by omega, by omega, by omega⟩⟩, Or.inr ⟨_, by omega, yw (by omega), Or.inr (Or.inl ⟨by omega, by omega, by omega⟩)⟩⟩⟩
    · --
      refine aw_step (f1 := (35, [some (.ref 65), some (.int b), some (.int f), some (.int t), some (.int i), none, none, none], [(.int i)])) (w1 := w5) rfl rfl ?_
      refine s_i (pc1 := 36) (ls1 := [some (.ref 65), some (.int b), some (.int f), some (.int t), some (.int i), none, none, none]) (st1 := [(.int i)]) rfl rfl fun x18 e19 => ?_
      have e19t : x18.toInt = -1 := by rw [e19]; rfl
      refine s_ic 62 39 rfl rfl rfl (fun (h20 : ¬ i.toInt = x18.toInt) => ?_) (fun (h20 : ¬ (¬ i.toInt = x18.toInt)) => ?_)
      · --
        refine aw_step (f1 := (64, [some (.ref 65), some (.int b), some (.int f), some (.int t), some (.int i), none, none, none], [(.int i)])) (w1 := w5) rfl rfl ?_
        refine s_l (pc1 := 65) (ls1 := [some (.ref 65), some (.int b), some (.int f), some (.int t), some (.int i), none, none, none]) (st1 := []) rfl rfl fun y21 e22 => ?_
        have e22t : y21.toInt = i.toInt := by rw [e22]; exact Int32.toInt_toInt64 i
        refine s_l (pc1 := 66) (ls1 := [some (.ref 65), some (.int b), some (.int f), some (.int t), some (.int i), none, none, none]) (st1 := [(.long y21)]) rfl rfl fun y23 e24 => ?_
        have e24t : y23.toInt = 0 := by rw [e24]; rfl
        refine aw_step (f1 := (67, [some (.ref 65), some (.int b), some (.int f), some (.int t), some (.int i), none, none, none], [(.ref 65), (.long y23), (.long y21)])) (w1 := w5) rfl rfl ?_
        refine s_gr 77 J6 70 rfl rfl rfl rfl rfl rfl ?_
        refine aw_step (f1 := (71, [some (.ref 65), some (.int b), some (.int f), some (.int t), some (.int i), none, none, none], [(.int f), (.ref 77), (.long y23), (.long y21)])) (w1 := w5) rfl rfl ?_
        refine s_ia J6 72 rfl rfl rfl rfl (by omega) (by omega) fun x25 x25a x25b x25f => ?_
        --
        have x25w : x25.toInt = rI w5 77 f.toInt.toNat := (rI_of x25f).symm
        refine s_i (pc1 := 73) (ls1 := [some (.ref 65), some (.int b), some (.int f), some (.int t), some (.int i), none, none, none]) (st1 := [(.int x25), (.long y23), (.long y21)]) rfl rfl fun x26 e27 => ?_
        have e27t : x26.toInt = 1 := by rw [e27]; rfl
        refine s_i (pc1 := 74) (ls1 := [some (.ref 65), some (.int b), some (.int f), some (.int t), some (.int i), none, none, none]) (st1 := [(.long y23), (.long y21)]) rfl rfl fun x28 e29 => ?_
        have e29 : x28 = x25 - x26 := e29
        have e29t : x28.toInt = x25.toInt - x26.toInt := by rw [e29]; exact n_sub (by omega) (by omega)
        refine s_l (pc1 := 75) (ls1 := [some (.ref 65), some (.int b), some (.int f), some (.int t), some (.int i), none, none, none]) (st1 := [(.long y23), (.long y21)]) rfl rfl fun y30 e31 => ?_
        have e31t : y30.toInt = x28.toInt := by rw [e31]; exact Int32.toInt_toInt64 x28
        refine s_cs (z := 108) (as := [(.long y21), (.long y23), (.long y30)]) (st1 := []) 78 rfl rfl rfl rfl rfl rfl (Nat.le_of_ble_eq_true rfl) (Nat.le_of_ble_eq_true rfl) (Nat.le_of_ble_eq_true rfl) (q_in2 y21 y23 y30) ?_
        rintro _ _ ⟨rfl, x32, rfl, x32t⟩
        refine ⟨rfl, ?_⟩
        show aw none _ 144 _ (78, [some (.ref 65), some (.int b), some (.int f), some (.int t), some (.int i), none, none, none], [(.int x32)]) w5
        refine s_if 84 81 rfl rfl rfl (fun (h33 : ¬ x32.toInt = 0) => ?_) (fun (h33 : ¬ (¬ x32.toInt = 0)) => ?_)
        · --
          refine aw_step (f1 := (85, [some (.ref 65), some (.int b), some (.int f), some (.int t), some (.int i), none, none, none], [(.int f)])) (w1 := w5) rfl rfl ?_
          refine aw_step (f1 := (87, [some (.ref 65), some (.int b), some (.int f), some (.int t), some (.int i), some (.int f), none, none], [])) (w1 := w5) rfl rfl ?_
          refine s_i (pc1 := 88) (ls1 := [some (.ref 65), some (.int b), some (.int f), some (.int t), some (.int i), some (.int f), none, none]) (st1 := []) rfl rfl fun x34 e35 => ?_
          have e35t : x34.toInt = 0 := by rw [e35]; rfl
          refine aw_step (f1 := (90, [some (.ref 65), some (.int b), some (.int f), some (.int t), some (.int i), some (.int f), some (.int x34), none], [])) (w1 := w5) rfl rfl ?_
          refine f_farW ⟨J6.1, ab_fr.rf⟩ b f t i lr hr dm (by omega) htl (yw (by omega)) (by omega) ⟨by omega, by omega⟩ (fun c c0 F => ?_) 40 x34 f _ (by omega) (by omega) (by omega) ⟨by omega, by omega⟩ (by rw [show x34.toInt.toNat = 0 by omega]; exact rfl)
          exact ⟨J6, c, rfl, Or.inr ⟨⟨⟨by omega, by omega⟩, ⟨by omega, by omega, by omega⟩, ⟨by omega, by omega, by omega⟩⟩, Or.inr ⟨_, by omega, yw (by omega), Or.inr (Or.inr ⟨⟨by omega, by omega⟩, _, F, by omega⟩)⟩⟩⟩
        · --
          refine s_i (pc1 := 83) (ls1 := [some (.ref 65), some (.int b), some (.int f), some (.int t), some (.int i), none, none, none]) (st1 := []) rfl rfl fun x36 e37 => ?_
          have e37t : x36.toInt = -6 := by rw [e37]; rfl
          refine aw_ret (v := some (.int x36)) rfl rfl ?_
          first
            | exact ⟨J6, x36, rfl, Or.inr ⟨⟨⟨by omega, by omega⟩, ⟨by omega, by omega, by omega⟩, ⟨by omega, by omega, by omega⟩⟩, Or.inl ⟨by omega, nw (by omega)⟩⟩⟩
            | exact ⟨J6, x36, rfl, Or.inr ⟨⟨⟨by omega, by omega⟩, ⟨by omega, by omega, by omega⟩, ⟨by omega, by omega, by omega⟩⟩, Or.inr ⟨_, by omega, yw (by omega), Or.inl ⟨by omega, by omega⟩⟩⟩⟩
            | exact ⟨J6, x36, rfl, Or.inr ⟨⟨⟨by omega, by omega⟩, ⟨by omega, by omega, by omega⟩, ⟨by omega, by omega, by omega⟩⟩, Or.inr ⟨_, by omega, yw (by omega), Or.inr (Or.inl ⟨by omega, by omega, by omega⟩)⟩⟩⟩
      · --
        refine aw_step (f1 := (40, [some (.ref 65), some (.int b), some (.int f), some (.int t), some (.int i), none, none, none], [(.ref 65)])) (w1 := w5) rfl rfl ?_
        refine s_gr 77 J6 43 rfl rfl rfl rfl rfl rfl ?_
        refine aw_step (f1 := (44, [some (.ref 65), some (.int b), some (.int f), some (.int t), some (.int i), none, none, none], [(.int f), (.ref 77)])) (w1 := w5) rfl rfl ?_
        refine s_ia J6 45 rfl rfl rfl rfl (by omega) (by omega) fun x38 x38a x38b x38f => ?_
        --
        have x38w : x38.toInt = rI w5 77 f.toInt.toNat := (rI_of x38f).symm
        refine s_i (pc1 := 47) (ls1 := [some (.ref 65), some (.int b), some (.int f), some (.int t), some (.int i), none, none, none]) (st1 := [(.int x38)]) rfl rfl fun x39 e40 => ?_
        have e40t : x39.toInt = 100000 := by rw [e40]; rfl
        refine s_ic 55 50 rfl rfl rfl (fun (h41 : ¬ x38.toInt = x39.toInt) => ?_) (fun (h41 : ¬ (¬ x38.toInt = x39.toInt)) => ?_)
        · --
          refine aw_step (f1 := (56, [some (.ref 65), some (.int b), some (.int f), some (.int t), some (.int i), none, none, none], [(.ref 65)])) (w1 := w5) rfl rfl ?_
          refine s_gr 77 J6 59 rfl rfl rfl rfl rfl rfl ?_
          refine aw_step (f1 := (60, [some (.ref 65), some (.int b), some (.int f), some (.int t), some (.int i), none, none, none], [(.int f), (.ref 77)])) (w1 := w5) rfl rfl ?_
          refine s_ia J6 61 rfl rfl rfl rfl (by omega) (by omega) fun x42 x42a x42b x42f => ?_
          --
          have x42w : x42.toInt = rI w5 77 f.toInt.toNat := (rI_of x42f).symm
          refine aw_ret (v := some (.int x42)) rfl rfl ?_
          first
            | exact ⟨J6, x42, rfl, Or.inr ⟨⟨⟨by omega, by omega⟩, ⟨by omega, by omega, by omega⟩, ⟨by omega, by omega, by omega⟩⟩, Or.inl ⟨by omega, nw (by omega)⟩⟩⟩
            | exact ⟨J6, x42, rfl, Or.inr ⟨⟨⟨by omega, by omega⟩, ⟨by omega, by omega, by omega⟩, ⟨by omega, by omega, by omega⟩⟩, Or.inr ⟨_, by omega, yw (by omega), Or.inl ⟨by omega, by omega⟩⟩⟩⟩
            | exact ⟨J6, x42, rfl, Or.inr ⟨⟨⟨by omega, by omega⟩, ⟨by omega, by omega, by omega⟩, ⟨by omega, by omega, by omega⟩⟩, Or.inr ⟨_, by omega, yw (by omega), Or.inr (Or.inl ⟨by omega, by omega, by omega⟩)⟩⟩⟩
        · --
          refine s_i (pc1 := 52) (ls1 := [some (.ref 65), some (.int b), some (.int f), some (.int t), some (.int i), none, none, none]) (st1 := []) rfl rfl fun x43 e44 => ?_
          have e44t : x43.toInt = -6 := by rw [e44]; rfl
          refine aw_step (f1 := (61, [some (.ref 65), some (.int b), some (.int f), some (.int t), some (.int i), none, none, none], [(.int x43)])) (w1 := w5) rfl rfl ?_
          --
          refine aw_ret (v := some (.int x43)) rfl rfl ?_
          first
            | exact ⟨J6, x43, rfl, Or.inr ⟨⟨⟨by omega, by omega⟩, ⟨by omega, by omega, by omega⟩, ⟨by omega, by omega, by omega⟩⟩, Or.inl ⟨by omega, nw (by omega)⟩⟩⟩
            | exact ⟨J6, x43, rfl, Or.inr ⟨⟨⟨by omega, by omega⟩, ⟨by omega, by omega, by omega⟩, ⟨by omega, by omega, by omega⟩⟩, Or.inr ⟨_, by omega, yw (by omega), Or.inl ⟨by omega, by omega⟩⟩⟩⟩
            | exact ⟨J6, x43, rfl, Or.inr ⟨⟨⟨by omega, by omega⟩, ⟨by omega, by omega, by omega⟩, ⟨by omega, by omega, by omega⟩⟩, Or.inr ⟨_, by omega, yw (by omega), Or.inr (Or.inl ⟨by omega, by omega, by omega⟩)⟩⟩⟩
  · --
    refine s_i (pc1 := 11) (ls1 := [some (.ref 65), some (.int b), some (.int f), some (.int t), some (.int i), none, none, none]) (st1 := []) rfl rfl fun x45 e46 => ?_
    have e46t : x45.toInt = -1 := by rw [e46]; rfl
    refine aw_ret (v := some (.int x45)) rfl rfl ?_
    exact ⟨J, x45, rfl, Or.inl ⟨by omega, by have := hl0 f; have := hl0 t; omega⟩⟩
