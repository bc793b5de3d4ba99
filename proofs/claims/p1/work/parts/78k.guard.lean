/-! ===== guard ===== -/
/-- the guard, on g and to move, ends it within n rounds -/
noncomputable def WG (V : Nat → Int) (L M : Int) : Nat → Nat → Nat → Prop
  | 0, g, t => g = t ∧ ldN V t
  | n + 1, g, t => (ldN V g ∧ ldN V t) ∧ ∃ g', (g' = g ∨ eV V L g g') ∧ (g' = t ∨ ∀ t', (t' = t ∨ eV V M t t') → WG V L M n g' t')
noncomputable def CG (V : Nat → Int) (L M : Int) (n g t : Nat) : Prop := g = t ∨ ∀ t', (t' = t ∨ eV V M t t') → WG V L M n g t'
section GD
variable {V : Nat → Int} {L M : Int}
theorem WG_ld : ∀ {n g t : Nat}, WG V L M n g t → ldN V g ∧ ldN V t
  | 0, g, t, ⟨h1, h2⟩ => by subst h1; exact ⟨h2, h2⟩
  | n + 1, g, t, h => h.1
theorem WG_s : ∀ {n g t : Nat}, WG V L M n g t → WG V L M (n + 1) g t
  | 0, g, t, ⟨h1, h2⟩ => by subst h1; exact ⟨⟨h2, h2⟩, g, Or.inl rfl, Or.inl rfl⟩
  | n + 1, g, t, ⟨h, g', h1, h2⟩ => by
    refine ⟨h, g', h1, ?_⟩
    rcases h2 with q | q
    · exact Or.inl q
    · exact Or.inr fun t' ht => WG_s (q t' ht)
theorem WG_le {n m g t : Nat} (h : n ≤ m) (a : WG V L M n g t) : WG V L M m g t := by
  induction m with
  | zero => rw [show n = 0 by omega] at a; exact a
  | succ m ih =>
    by_cases q : n = m + 1
    · rw [q] at a; exact a
    · exact WG_s (ih (by omega))
theorem WG_fix {n : Nat} (h : ∀ g t, WG V L M (n + 1) g t → WG V L M n g t) : ∀ {m g t : Nat}, WG V L M m g t → WG V L M n g t
  | 0, g, t, a => WG_le (Nat.zero_le _) a
  | m + 1, g, t, ⟨a, g', a1, a2⟩ => by
    apply h
    refine ⟨a, g', a1, ?_⟩
    rcases a2 with q | q
    · exact Or.inl q
    · exact Or.inr fun t' ht => WG_fix h (q t' ht)
theorem WG_gr (hz : szV V ≤ 36) {c : Nat} (hc : ldN V c) (n : Nat) (h : ∀ j, j < n → ∃ g t, ¬ WG V L M j g t ∧ WG V L M (j + 1) g t) : n + 1 ≤ ctT (fun p => WG V L M n (p / 36) (p % 36)) 1296 := by
  have at_ : ∀ g t : Nat, ldN V g → ldN V t → (36 * g + t < 1296 ∧ (36 * g + t) / 36 = g ∧ (36 * g + t) % 36 = t) := fun g t a b => by
    have := a.1
    have := b.1
    omega
  induction n with
  | zero =>
    obtain ⟨a1, a2, a3⟩ := at_ c c hc hc
    have := ctT_lt (P := fun _ => False) (Q := fun p => WG V L M 0 (p / 36) (p % 36)) (a := 36 * c + c) (fun q => q) (by show WG V L M 0 _ _; rw [a2, a3]; exact ⟨rfl, hc⟩) (k := 1296) (fun t _ q => q.elim) a1
    omega
  | succ n ih =>
    have i := ih (fun j hj => h j (by omega))
    obtain ⟨g, t, b1, b2⟩ := h n (by omega)
    obtain ⟨a1, a2, a3⟩ := at_ g t (WG_ld b2).1 (WG_ld b2).2
    have := ctT_lt (P := fun p => WG V L M n (p / 36) (p % 36)) (Q := fun p => WG V L M (n + 1) (p / 36) (p % 36)) (a := 36 * g + t) (by show ¬ WG V L M n _ _; rw [a2, a3]; exact b1) (by show WG V L M (n + 1) _ _; rw [a2, a3]; exact b2) (k := 1296) (fun t _ q => WG_s q) a1
    omega
theorem WG_no (hz : szV V ≤ 36) {c : Nat} (hc : ldN V c) (h : ∀ j, j < 1296 → ∃ g t, ¬ WG V L M j g t ∧ WG V L M (j + 1) g t) : False := by
  have a := WG_gr hz hc 1296 h
  have b := ctT_le (fun p => WG V L M 1296 (p / 36) (p % 36)) 1296
  omega
theorem WG_1296 (hz : szV V ≤ 36) {n g t : Nat} (h : WG V L M n g t) : WG V L M 1296 g t := by
  apply Classical.byContradiction
  intro q
  refine WG_no (L := L) (M := M) hz (WG_ld h).1 fun j hj => ?_
  apply Classical.byContradiction
  intro z
  have f := WG_fix (n := j) (fun a b u => by
    apply Classical.byContradiction
    intro y
    exact z ⟨a, b, y, u⟩) h
  exact q (WG_le (by omega) f)
end GD
noncomputable def nG (V : Nat → Int) (L M : Int) (n g t : Nat) : Prop := WG V L M n g t ∧ ∀ k, k < n → ¬ WG V L M k g t
theorem nG.uniq {V : Nat → Int} {L M : Int} {a b g t : Nat} (h : nG V L M a g t) (k : nG V L M b g t) : b = a := by
  rcases Nat.lt_trichotomy a b with q | q | q
  · exact absurd h.1 (k.2 a q)
  · exact q.symm
  · exact absurd k.1 (h.2 b q)
noncomputable def fsG (V : Nat → Int) (L M : Int) (k g t : Nat) (z : Int) : Prop := ∃ x : Nat, z = x ∧ ((x = g ∨ eV V L g x) ∧ CG V L M k x t) ∧ ∀ y, y < x → ¬ ((y = g ∨ eV V L g y) ∧ CG V L M k y t)
theorem fsG.uniq {V : Nat → Int} {L M : Int} {k g t : Nat} {a b : Int} (h : fsG V L M k g t a) (u : fsG V L M k g t b) : b = a := by
  obtain ⟨x, h1, h2, h3⟩ := h
  obtain ⟨y, u1, u2, u3⟩ := u
  rcases Nat.lt_trichotomy x y with q | q | q
  · exact absurd h2 (u3 x q)
  · rw [h1, u1, q]
  · exact absurd u2 (h3 y q)
noncomputable def grdP (V : Nat → Int) (b c th wh wa z : Int) : Prop := (z = -1 ∧ ((b < 0 ∨ 3 < b) ∨ (c < 0 ∨ szV V ≤ c ∨ V (40 + c.toNat) = 126) ∨ (th < 0 ∨ 3 < th) ∨ (wh < 0 ∨ szV V ≤ wh ∨ V (40 + wh.toNat) = 126))) ∨ (z = -2 ∧ ((0 ≤ b ∧ b ≤ 3) ∧ (0 ≤ c ∧ c < szV V ∧ V (40 + c.toNat) ≠ 126) ∧ (0 ≤ th ∧ th ≤ 3) ∧ (0 ≤ wh ∧ wh < szV V ∧ V (40 + wh.toNat) ≠ 126)) ∧ (wa < 0 ∨ 1 < wa)) ∨ (((0 ≤ b ∧ b ≤ 3) ∧ (0 ≤ c ∧ c < szV V ∧ V (40 + c.toNat) ≠ 126) ∧ (0 ≤ th ∧ th ≤ 3) ∧ (0 ≤ wh ∧ wh < szV V ∧ V (40 + wh.toNat) ≠ 126)) ∧ (0 ≤ wa ∧ wa ≤ 1) ∧ ((z = -6 ∧ ((∀ n, ¬ WG V (V (8 + 4 * b.toNat + 0)) (V (8 + 4 * th.toNat + 0)) n c.toNat wh.toNat) ∨ (c = wh ∧ wa = 1))) ∨ ∃ n : Nat, nG V (V (8 + 4 * b.toNat + 0)) (V (8 + 4 * th.toNat + 0)) n c.toNat wh.toNat ∧ ((wa = 0 ∧ z = n) ∨ (wa = 1 ∧ 0 < n ∧ fsG V (V (8 + 4 * b.toNat + 0)) (V (8 + 4 * th.toNat + 0)) (n - 1) c.toNat wh.toNat z))))
theorem U_guard {V : Nat → Int} {b c th wh wa z z2 : Int} (h : grdP V b c th wh wa z) (g : grdP V b c th wh wa z2) : z2 = z := by
  rcases h with h | h | ⟨h1, h2, h3⟩ <;> rcases g with g | g | ⟨g1, g2, g3⟩
  · omega
  · omega
  · clear g3; omega
  · omega
  · omega
  · clear g3; omega
  · clear h3; omega
  · clear h3; omega
  · have key : ∀ {x y : Int} {n : Nat}, (x = -6 ∧ ((∀ n, ¬ WG V (V (8 + 4 * b.toNat + 0)) (V (8 + 4 * th.toNat + 0)) n c.toNat wh.toNat) ∨ (c = wh ∧ wa = 1))) → nG V (V (8 + 4 * b.toNat + 0)) (V (8 + 4 * th.toNat + 0)) n c.toNat wh.toNat → ((wa = 0 ∧ y = n) ∨ (wa = 1 ∧ 0 < n ∧ fsG V (V (8 + 4 * b.toNat + 0)) (V (8 + 4 * th.toNat + 0)) (n - 1) c.toNat wh.toNat y)) → False := by
      intro x y n a1 a2 a3
      rcases a1.2 with q | q
      · exact q n a2.1
      · rcases a3 with u | ⟨u1, u2, u3⟩
        · omega
        · refine a2.2 0 u2 ⟨by rw [q.1], ?_⟩
          have := h1.2.2.2
          exact ⟨by omega, this.2.2⟩
    rcases h3 with h3 | ⟨n, h3, h4⟩ <;> rcases g3 with g3 | ⟨m, g3, g4⟩
    · omega
    · exact (key h3 g3 g4).elim
    · exact (key g3 h3 h4).elim
    · have e := h3.uniq g3
      subst e
      rcases h4 with h4 | ⟨a1, a2, a3⟩ <;> rcases g4 with g4 | ⟨c1, c2, c3⟩
      · omega
      · omega
      · omega
      · exact a3.uniq c3
theorem m1_bt {y : Int64} (h : y.toInt = -1) : ∀ j, j < 64 → bt (n64 y) j = 1 := by
  have e : y = -1 := Int64.toInt_inj.mp (by rw [h]; rfl)
  subst e
  decide +kernel
noncomputable def gBt (V : Nat → Int) (L : Int) (x : Nat → Nat) (c : Nat) : Prop := ∀ j, bt (x c) j = 1 ↔ ldN V c ∧ (j = c ∨ eV V L c j)
noncomputable def gBc (V : Nat → Int) (x : Nat → Nat) (c : Nat) : Prop := ∀ j, bt (x c) j = 1 ↔ ldN V c ∧ j = c
noncomputable def bgI (V : Nat → Int) (L M : Int) (x y z : Nat → Nat) (i : Int) : Prop := ∀ c : Nat, (c : Int) < i → gBt V L x c ∧ gBt V M y c ∧ gBc V z c
theorem gv_n {V : Nat → Int} {c v : Nat} {P : Nat → Prop} (hc : ¬ ldN V c) (e : v = 0) : ∀ j, bt v j = 1 ↔ ldN V c ∧ P j := fun j => by
  rw [e, bt_z]
  exact ⟨fun z => by omega, fun z => absurd z.1 hc⟩
theorem gv_c {V : Nat → Int} {c v : Nat} (hc : ldN V c) (e : v = 2 ^ c) : ∀ j, bt v j = 1 ↔ ldN V c ∧ j = c := fun j => by
  rw [e, bt_pow]
  by_cases q : c = j
  · rw [if_pos q]; exact ⟨fun _ => ⟨hc, q.symm⟩, fun _ => rfl⟩
  · rw [if_neg q]; exact ⟨fun z => by omega, fun z => absurd z.2.symm q⟩
theorem e_bgL {d : Nat} {w00 : am_W} {V : Nat → Int} (R00 : RCs w00 3 V) (L M : Int32) (hL : 1 ≤ L.toInt ∧ L.toInt ≤ 50) (hM : 1 ≤ M.toInt ∧ M.toInt ≤ 50) : ∀ (m : Nat) (w : am_W) (i : Int32) (o5 : Option Value), (szV V - i.toInt).toNat < m → 0 ≤ i.toInt → i.toInt ≤ szV V → ab_J ab_TT ab_sets ab_WR w00 w → only [34, 35, 36, 37] w00 w → bgI V L.toInt M.toInt (rL w 35) (rL w 36) (rL w 37) i.toInt → fI w 34 4 = szV V → aw none (d + 3) 1 (fun r w1 => r = none ∧ ab_J ab_TT ab_sets ab_WR w00 w1 ∧ only [34, 35, 36, 37] w00 w1 ∧ fI w1 34 4 = szV V ∧ bgI V L.toInt M.toInt (rL w1 35) (rL w1 36) (rL w1 37) (szV V)) (11, [some (.ref 34), some (.ref 3), some (.int L), some (.int M), some (.int i), o5], []) w := by
  intro m
  induction m with
  | zero => intro w i o5 p; omega
  | succ m ih =>
    intro w i o5 p1 p2 p3 J O F hs
    have R := R00.of O (by decide)
    have szc := szC_in J.1
    have hsz := R.sz
    refine aw_step (f1 := (13, [some (.ref 34), some (.ref 3), some (.int L), some (.int M), some (.int i), o5], [(.int i)])) (w1 := w) rfl rfl ?_
    refine aw_step (f1 := (14, [some (.ref 34), some (.ref 3), some (.int L), some (.int M), some (.int i), o5], [(.ref 34), (.int i)])) (w1 := w) rfl rfl ?_
    refine s_gi J 17 rfl rfl rfl rfl rfl rfl fun x1 x1a x1b x1f => ?_
    have x1v : x1.toInt = fI w 34 4 := by rw [← fI_of x1f]
    refine s_ic 113 20 rfl rfl rfl (fun (h2 : x1.toInt ≤ i.toInt) => ?_) (fun (h2 : ¬ (x1.toInt ≤ i.toInt)) => ?_)
    · --
      refine aw_ret (v := none) rfl rfl ?_
      exact ⟨rfl, J, O, hs, fun q hq => F q (by omega)⟩
    · --
      refine aw_step (f1 := (21, [some (.ref 34), some (.ref 3), some (.int L), some (.int M), some (.int i), o5], [(.ref 3)])) (w1 := w) rfl rfl ?_
      refine aw_step (f1 := (23, [some (.ref 34), some (.ref 3), some (.int L), some (.int M), some (.int i), o5], [(.int i), (.ref 3)])) (w1 := w) rfl rfl ?_
      refine s_cv (z := 40) (p := 3) (as := [(.int i)]) (st1 := []) J 26 rfl rfl rfl rfl rfl rfl rfl rfl (Nat.le_of_ble_eq_true rfl) (Nat.le_of_ble_eq_true rfl) (q_isDry R i J.1) ?_
      rintro _ _ ⟨rfl, x3, rfl, x3t⟩
      refine ⟨rfl, ?_⟩
      show aw none _ 1 _ (26, [some (.ref 34), some (.ref 3), some (.int L), some (.int M), some (.int i), o5], [(.int x3)]) w
      refine aw_step (f1 := (28, [some (.ref 34), some (.ref 3), some (.int L), some (.int M), some (.int i), some (.int x3)], [])) (w1 := w) rfl rfl ?_
      refine aw_step (f1 := (29, [some (.ref 34), some (.ref 3), some (.int L), some (.int M), some (.int i), some (.int x3)], [(.ref 34)])) (w1 := w) rfl rfl ?_
      refine s_gr 35 J 32 rfl rfl rfl rfl rfl rfl ?_
      refine aw_step (f1 := (34, [some (.ref 34), some (.ref 3), some (.int L), some (.int M), some (.int i), some (.int x3)], [(.int i), (.ref 35)])) (w1 := w) rfl rfl ?_
      refine aw_step (f1 := (36, [some (.ref 34), some (.ref 3), some (.int L), some (.int M), some (.int i), some (.int x3)], [(.int x3), (.int i), (.ref 35)])) (w1 := w) rfl rfl ?_
      refine s_if 55 39 rfl rfl rfl (fun (h4 : x3.toInt = 0) => ?_) (fun (h4 : ¬ (x3.toInt = 0)) => ?_)
      · --
        refine s_l (pc1 := 56) (ls1 := [some (.ref 34), some (.ref 3), some (.int L), some (.int M), some (.int i), some (.int x3)]) (st1 := [(.int i), (.ref 35)]) rfl rfl fun y5 e6 => ?_
        have e6t : y5.toInt = 0 := by rw [e6]; rfl
        have q_y5 := ab_any64 y5
        unfold ab_lo64 ab_hi64 at q_y5
        refine s_ls J 57 rfl rfl rfl rfl (by omega) (by omega) (by omega) (by omega) fun w7 J8 w7e => ?_
        have w7f := rL_st J.1 (p := 35) (j := i.toInt.toNat) rfl (by omega) w7e
        refine aw_step (f1 := (58, [some (.ref 34), some (.ref 3), some (.int L), some (.int M), some (.int i), some (.int x3)], [(.ref 34)])) (w1 := w7) rfl rfl ?_
        refine s_gr 36 J8 61 rfl rfl rfl rfl rfl rfl ?_
        refine aw_step (f1 := (63, [some (.ref 34), some (.ref 3), some (.int L), some (.int M), some (.int i), some (.int x3)], [(.int i), (.ref 36)])) (w1 := w7) rfl rfl ?_
        refine aw_step (f1 := (65, [some (.ref 34), some (.ref 3), some (.int L), some (.int M), some (.int i), some (.int x3)], [(.int x3), (.int i), (.ref 36)])) (w1 := w7) rfl rfl ?_
        refine s_if 84 68 rfl rfl rfl (fun (h9 : x3.toInt = 0) => ?_) (fun (h9 : ¬ (x3.toInt = 0)) => ?_)
        · --
          refine s_l (pc1 := 85) (ls1 := [some (.ref 34), some (.ref 3), some (.int L), some (.int M), some (.int i), some (.int x3)]) (st1 := [(.int i), (.ref 36)]) rfl rfl fun y10 e11 => ?_
          have e11t : y10.toInt = 0 := by rw [e11]; rfl
          have q_y10 := ab_any64 y10
          unfold ab_lo64 ab_hi64 at q_y10
          refine s_ls J8 86 rfl rfl rfl rfl (by omega) (by omega) (by omega) (by omega) fun w12 J13 w12e => ?_
          have w12f := rL_st J8.1 (p := 36) (j := i.toInt.toNat) rfl (by omega) w12e
          refine aw_step (f1 := (87, [some (.ref 34), some (.ref 3), some (.int L), some (.int M), some (.int i), some (.int x3)], [(.ref 34)])) (w1 := w12) rfl rfl ?_
          refine s_gr 37 J13 90 rfl rfl rfl rfl rfl rfl ?_
          refine aw_step (f1 := (92, [some (.ref 34), some (.ref 3), some (.int L), some (.int M), some (.int i), some (.int x3)], [(.int i), (.ref 37)])) (w1 := w12) rfl rfl ?_
          refine aw_step (f1 := (94, [some (.ref 34), some (.ref 3), some (.int L), some (.int M), some (.int i), some (.int x3)], [(.int x3), (.int i), (.ref 37)])) (w1 := w12) rfl rfl ?_
          refine s_if 105 97 rfl rfl rfl (fun (h14 : x3.toInt = 0) => ?_) (fun (h14 : ¬ (x3.toInt = 0)) => ?_)
          · --
            refine s_l (pc1 := 106) (ls1 := [some (.ref 34), some (.ref 3), some (.int L), some (.int M), some (.int i), some (.int x3)]) (st1 := [(.int i), (.ref 37)]) rfl rfl fun y15 e16 => ?_
            have e16t : y15.toInt = 0 := by rw [e16]; rfl
            have q_y15 := ab_any64 y15
            unfold ab_lo64 ab_hi64 at q_y15
            refine s_ls J13 107 rfl rfl rfl rfl (by omega) (by omega) (by omega) (by omega) fun w17 J18 w17e => ?_
            have w17f := rL_st J13.1 (p := 37) (j := i.toInt.toNat) rfl (by omega) w17e
            refine aw_step (f1 := (110, [some (.ref 34), some (.ref 3), some (.int L), some (.int M), some (.int (i + Int32.ofInt 1)), some (.int x3)], [])) (w1 := w17) rfl rfl ?_
            obtain ⟨x19, x19e⟩ : ∃ z, z = (i + Int32.ofInt 1) := ⟨_, rfl⟩
            have x19t : x19.toInt = i.toInt + (1) := by rw [x19e]; exact n_add (y := Int32.ofInt (1)) (by show _ ≤ _ + (1 : Int); omega) (by show _ + (1 : Int) ≤ _; omega)
            rw [← x19e]
            refine aw_step (f1 := (11, [some (.ref 34), some (.ref 3), some (.int L), some (.int M), some (.int x19), some (.int x3)], [])) (w1 := w17) rfl rfl ?_
            first
              | (exfalso; omega)
              | (have ln : ¬ ldN V i.toInt.toNat := fun z => by have z1 := z.1; have z2 := z.2; omega
                 refine ih w17 x19 _ (by omega) (by omega) (by omega) J18 (((O.trans (oc w7f.1 (by decide))).trans (oc w12f.1 (by decide))).trans (oc w17f.1 (by decide))) (fun q hq => ?_) (by rw [w17f.1.fIe (by decide), w12f.1.fIe (by decide), w7f.1.fIe (by decide)]; exact hs)
                 by_cases e : q = i.toInt.toNat
                 · subst e
                   refine ⟨?_, ?_, ?_⟩
                   · unfold gBt
                     rw [w17f.1.rLe (by decide), w12f.1.rLe (by decide), w7f.2.1]
                     exact gv_n ln (n64_z.mp e6t)
                   · unfold gBt
                     rw [w17f.1.rLe (by decide), w12f.2.1]
                     exact gv_n ln (n64_z.mp e11t)
                   · unfold gBc
                     rw [w17f.2.1]
                     exact gv_n ln (n64_z.mp e16t)
                 · obtain ⟨f1, f2, f3⟩ := F q (by omega)
                   refine ⟨?_, ?_, ?_⟩
                   · unfold gBt
                     rw [w17f.1.rLe (by decide), w12f.1.rLe (by decide), w7f.2.2 q e]
                     exact f1
                   · unfold gBt
                     rw [w17f.1.rLe (by decide), w12f.2.2 q e, w7f.1.rLe (by decide)]
                     exact f2
                   · unfold gBc
                     rw [w17f.2.2 q e, w12f.1.rLe (by decide), w7f.1.rLe (by decide)]
                     exact f3)
          · --
            refine aw_step (f1 := (99, [some (.ref 34), some (.ref 3), some (.int L), some (.int M), some (.int i), some (.int x3)], [(.int i), (.int i), (.ref 37)])) (w1 := w12) rfl rfl ?_
            refine s_cs (z := 104) (as := [(.int i)]) (st1 := [(.int i), (.ref 37)]) 102 rfl rfl rfl rfl rfl rfl (Nat.le_of_ble_eq_true rfl) (Nat.le_of_ble_eq_true rfl) (Nat.le_of_ble_eq_true rfl) (q_bit i) ?_
            rintro _ _ ⟨rfl, y20, rfl, y20e⟩
            refine ⟨rfl, ?_⟩
            show aw none _ 1 _ (102, [some (.ref 34), some (.ref 3), some (.int L), some (.int M), some (.int i), some (.int x3)], [(.long y20), (.int i), (.ref 37)]) w12
            have y20b : n64 y20 = 2 ^ i.toInt.toNat := by rw [y20e]; exact n64_shl (by omega) (by omega) rfl
            --
            refine aw_step (f1 := (106, [some (.ref 34), some (.ref 3), some (.int L), some (.int M), some (.int i), some (.int x3)], [(.long y20), (.int i), (.ref 37)])) (w1 := w12) rfl rfl ?_
            have q_y20 := ab_any64 y20
            unfold ab_lo64 ab_hi64 at q_y20
            refine s_ls J13 107 rfl rfl rfl rfl (by omega) (by omega) (by omega) (by omega) fun w21 J22 w21e => ?_
            have w21f := rL_st J13.1 (p := 37) (j := i.toInt.toNat) rfl (by omega) w21e
            refine aw_step (f1 := (110, [some (.ref 34), some (.ref 3), some (.int L), some (.int M), some (.int (i + Int32.ofInt 1)), some (.int x3)], [])) (w1 := w21) rfl rfl ?_
            obtain ⟨x23, x23e⟩ : ∃ z, z = (i + Int32.ofInt 1) := ⟨_, rfl⟩
            have x23t : x23.toInt = i.toInt + (1) := by rw [x23e]; exact n_add (y := Int32.ofInt (1)) (by show _ ≤ _ + (1 : Int); omega) (by show _ + (1 : Int) ≤ _; omega)
            rw [← x23e]
            refine aw_step (f1 := (11, [some (.ref 34), some (.ref 3), some (.int L), some (.int M), some (.int x23), some (.int x3)], [])) (w1 := w21) rfl rfl ?_
            first
              | (exfalso; omega)
              | (have ln : ¬ ldN V i.toInt.toNat := fun z => by have z1 := z.1; have z2 := z.2; omega
                 refine ih w21 x23 _ (by omega) (by omega) (by omega) J22 (((O.trans (oc w7f.1 (by decide))).trans (oc w12f.1 (by decide))).trans (oc w21f.1 (by decide))) (fun q hq => ?_) (by rw [w21f.1.fIe (by decide), w12f.1.fIe (by decide), w7f.1.fIe (by decide)]; exact hs)
                 by_cases e : q = i.toInt.toNat
                 · subst e
                   refine ⟨?_, ?_, ?_⟩
                   · unfold gBt
                     rw [w21f.1.rLe (by decide), w12f.1.rLe (by decide), w7f.2.1]
                     exact gv_n ln (n64_z.mp e6t)
                   · unfold gBt
                     rw [w21f.1.rLe (by decide), w12f.2.1]
                     exact gv_n ln (n64_z.mp e11t)
                   · unfold gBc
                     rw [w21f.2.1]
                     exact gv_c ln y20b
                 · obtain ⟨f1, f2, f3⟩ := F q (by omega)
                   refine ⟨?_, ?_, ?_⟩
                   · unfold gBt
                     rw [w21f.1.rLe (by decide), w12f.1.rLe (by decide), w7f.2.2 q e]
                     exact f1
                   · unfold gBt
                     rw [w21f.1.rLe (by decide), w12f.2.2 q e, w7f.1.rLe (by decide)]
                     exact f2
                   · unfold gBc
                     rw [w21f.2.2 q e, w12f.1.rLe (by decide), w7f.1.rLe (by decide)]
                     exact f3)
        · --
          refine aw_step (f1 := (69, [some (.ref 34), some (.ref 3), some (.int L), some (.int M), some (.int i), some (.int x3)], [(.ref 3), (.int i), (.ref 36)])) (w1 := w7) rfl rfl ?_
          refine aw_step (f1 := (70, [some (.ref 34), some (.ref 3), some (.int L), some (.int M), some (.int i), some (.int x3)], [(.int M), (.ref 3), (.int i), (.ref 36)])) (w1 := w7) rfl rfl ?_
          refine aw_step (f1 := (72, [some (.ref 34), some (.ref 3), some (.int L), some (.int M), some (.int i), some (.int x3)], [(.int i), (.int M), (.ref 3), (.int i), (.ref 36)])) (w1 := w7) rfl rfl ?_
          refine s_cv (z := 44) (p := 3) (as := [(.int M), (.int i)]) (st1 := [(.int i), (.ref 36)]) J8 75 rfl rfl rfl rfl rfl rfl rfl rfl (Nat.le_of_ble_eq_true rfl) (Nat.le_of_ble_eq_true rfl) (e_reach (R.of w7f.1 (by decide)) M i ⟨by omega, by omega⟩ ⟨by omega, by omega⟩ J8.1) ?_
          rintro _ _ ⟨rfl, y24, rfl, y24t⟩
          refine ⟨rfl, ?_⟩
          show aw none _ 1 _ (75, [some (.ref 34), some (.ref 3), some (.int L), some (.int M), some (.int i), some (.int x3)], [(.long y24), (.int i), (.ref 36)]) w7
          have lsM : lsV V M.toInt (i.toInt.toNat : Nat) (n64 y24) := by rw [show ((i.toInt.toNat : Nat) : Int) = i.toInt by omega]; exact y24t
          refine aw_step (f1 := (77, [some (.ref 34), some (.ref 3), some (.int L), some (.int M), some (.int i), some (.int x3)], [(.int i), (.long y24), (.int i), (.ref 36)])) (w1 := w7) rfl rfl ?_
          refine s_cs (z := 104) (as := [(.int i)]) (st1 := [(.long y24), (.int i), (.ref 36)]) 80 rfl rfl rfl rfl rfl rfl (Nat.le_of_ble_eq_true rfl) (Nat.le_of_ble_eq_true rfl) (Nat.le_of_ble_eq_true rfl) (q_bit i) ?_
          rintro _ _ ⟨rfl, y25, rfl, y25e⟩
          refine ⟨rfl, ?_⟩
          show aw none _ 1 _ (80, [some (.ref 34), some (.ref 3), some (.int L), some (.int M), some (.int i), some (.int x3)], [(.long y25), (.long y24), (.int i), (.ref 36)]) w7
          have y25b : n64 y25 = 2 ^ i.toInt.toNat := by rw [y25e]; exact n64_shl (by omega) (by omega) rfl
          refine s_l (pc1 := 81) (ls1 := [some (.ref 34), some (.ref 3), some (.int L), some (.int M), some (.int i), some (.int x3)]) (st1 := [(.int i), (.ref 36)]) rfl rfl fun y26 e27 => ?_
          have e27 : y26 = y24 ||| y25 := e27
          --
          refine aw_step (f1 := (85, [some (.ref 34), some (.ref 3), some (.int L), some (.int M), some (.int i), some (.int x3)], [(.long y26), (.int i), (.ref 36)])) (w1 := w7) rfl rfl ?_
          have q_y26 := ab_any64 y26
          unfold ab_lo64 ab_hi64 at q_y26
          refine s_ls J8 86 rfl rfl rfl rfl (by omega) (by omega) (by omega) (by omega) fun w28 J29 w28e => ?_
          have w28f := rL_st J8.1 (p := 36) (j := i.toInt.toNat) rfl (by omega) w28e
          refine aw_step (f1 := (87, [some (.ref 34), some (.ref 3), some (.int L), some (.int M), some (.int i), some (.int x3)], [(.ref 34)])) (w1 := w28) rfl rfl ?_
          refine s_gr 37 J29 90 rfl rfl rfl rfl rfl rfl ?_
          refine aw_step (f1 := (92, [some (.ref 34), some (.ref 3), some (.int L), some (.int M), some (.int i), some (.int x3)], [(.int i), (.ref 37)])) (w1 := w28) rfl rfl ?_
          refine aw_step (f1 := (94, [some (.ref 34), some (.ref 3), some (.int L), some (.int M), some (.int i), some (.int x3)], [(.int x3), (.int i), (.ref 37)])) (w1 := w28) rfl rfl ?_
          refine s_if 105 97 rfl rfl rfl (fun (h30 : x3.toInt = 0) => ?_) (fun (h30 : ¬ (x3.toInt = 0)) => ?_)
          · --
            refine s_l (pc1 := 106) (ls1 := [some (.ref 34), some (.ref 3), some (.int L), some (.int M), some (.int i), some (.int x3)]) (st1 := [(.int i), (.ref 37)]) rfl rfl fun y31 e32 => ?_
            have e32t : y31.toInt = 0 := by rw [e32]; rfl
            have q_y31 := ab_any64 y31
            unfold ab_lo64 ab_hi64 at q_y31
            refine s_ls J29 107 rfl rfl rfl rfl (by omega) (by omega) (by omega) (by omega) fun w33 J34 w33e => ?_
            have w33f := rL_st J29.1 (p := 37) (j := i.toInt.toNat) rfl (by omega) w33e
            refine aw_step (f1 := (110, [some (.ref 34), some (.ref 3), some (.int L), some (.int M), some (.int (i + Int32.ofInt 1)), some (.int x3)], [])) (w1 := w33) rfl rfl ?_
            obtain ⟨x35, x35e⟩ : ∃ z, z = (i + Int32.ofInt 1) := ⟨_, rfl⟩
            have x35t : x35.toInt = i.toInt + (1) := by rw [x35e]; exact n_add (y := Int32.ofInt (1)) (by show _ ≤ _ + (1 : Int); omega) (by show _ + (1 : Int) ≤ _; omega)
            rw [← x35e]
            refine aw_step (f1 := (11, [some (.ref 34), some (.ref 3), some (.int L), some (.int M), some (.int x35), some (.int x3)], [])) (w1 := w33) rfl rfl ?_
            first
              | (exfalso; omega)
              | (have ln : ¬ ldN V i.toInt.toNat := fun z => by have z1 := z.1; have z2 := z.2; omega
                 refine ih w33 x35 _ (by omega) (by omega) (by omega) J34 (((O.trans (oc w7f.1 (by decide))).trans (oc w28f.1 (by decide))).trans (oc w33f.1 (by decide))) (fun q hq => ?_) (by rw [w33f.1.fIe (by decide), w28f.1.fIe (by decide), w7f.1.fIe (by decide)]; exact hs)
                 by_cases e : q = i.toInt.toNat
                 · subst e
                   refine ⟨?_, ?_, ?_⟩
                   · unfold gBt
                     rw [w33f.1.rLe (by decide), w28f.1.rLe (by decide), w7f.2.1]
                     exact gv_n ln (n64_z.mp e6t)
                   · unfold gBt
                     rw [w33f.1.rLe (by decide), w28f.2.1]
                     exact gv_y ln lsM y25b (by rw [e27, n64_or])
                   · unfold gBc
                     rw [w33f.2.1]
                     exact gv_n ln (n64_z.mp e32t)
                 · obtain ⟨f1, f2, f3⟩ := F q (by omega)
                   refine ⟨?_, ?_, ?_⟩
                   · unfold gBt
                     rw [w33f.1.rLe (by decide), w28f.1.rLe (by decide), w7f.2.2 q e]
                     exact f1
                   · unfold gBt
                     rw [w33f.1.rLe (by decide), w28f.2.2 q e, w7f.1.rLe (by decide)]
                     exact f2
                   · unfold gBc
                     rw [w33f.2.2 q e, w28f.1.rLe (by decide), w7f.1.rLe (by decide)]
                     exact f3)
          · --
            refine aw_step (f1 := (99, [some (.ref 34), some (.ref 3), some (.int L), some (.int M), some (.int i), some (.int x3)], [(.int i), (.int i), (.ref 37)])) (w1 := w28) rfl rfl ?_
            refine s_cs (z := 104) (as := [(.int i)]) (st1 := [(.int i), (.ref 37)]) 102 rfl rfl rfl rfl rfl rfl (Nat.le_of_ble_eq_true rfl) (Nat.le_of_ble_eq_true rfl) (Nat.le_of_ble_eq_true rfl) (q_bit i) ?_
            rintro _ _ ⟨rfl, y36, rfl, y36e⟩
            refine ⟨rfl, ?_⟩
            show aw none _ 1 _ (102, [some (.ref 34), some (.ref 3), some (.int L), some (.int M), some (.int i), some (.int x3)], [(.long y36), (.int i), (.ref 37)]) w28
            have y36b : n64 y36 = 2 ^ i.toInt.toNat := by rw [y36e]; exact n64_shl (by omega) (by omega) rfl
            --
            refine aw_step (f1 := (106, [some (.ref 34), some (.ref 3), some (.int L), some (.int M), some (.int i), some (.int x3)], [(.long y36), (.int i), (.ref 37)])) (w1 := w28) rfl rfl ?_
            have q_y36 := ab_any64 y36
            unfold ab_lo64 ab_hi64 at q_y36
            refine s_ls J29 107 rfl rfl rfl rfl (by omega) (by omega) (by omega) (by omega) fun w37 J38 w37e => ?_
            have w37f := rL_st J29.1 (p := 37) (j := i.toInt.toNat) rfl (by omega) w37e
            refine aw_step (f1 := (110, [some (.ref 34), some (.ref 3), some (.int L), some (.int M), some (.int (i + Int32.ofInt 1)), some (.int x3)], [])) (w1 := w37) rfl rfl ?_
            obtain ⟨x39, x39e⟩ : ∃ z, z = (i + Int32.ofInt 1) := ⟨_, rfl⟩
            have x39t : x39.toInt = i.toInt + (1) := by rw [x39e]; exact n_add (y := Int32.ofInt (1)) (by show _ ≤ _ + (1 : Int); omega) (by show _ + (1 : Int) ≤ _; omega)
            rw [← x39e]
            refine aw_step (f1 := (11, [some (.ref 34), some (.ref 3), some (.int L), some (.int M), some (.int x39), some (.int x3)], [])) (w1 := w37) rfl rfl ?_
            first
              | (exfalso; omega)
              | (have ln : ¬ ldN V i.toInt.toNat := fun z => by have z1 := z.1; have z2 := z.2; omega
                 refine ih w37 x39 _ (by omega) (by omega) (by omega) J38 (((O.trans (oc w7f.1 (by decide))).trans (oc w28f.1 (by decide))).trans (oc w37f.1 (by decide))) (fun q hq => ?_) (by rw [w37f.1.fIe (by decide), w28f.1.fIe (by decide), w7f.1.fIe (by decide)]; exact hs)
                 by_cases e : q = i.toInt.toNat
                 · subst e
                   refine ⟨?_, ?_, ?_⟩
                   · unfold gBt
                     rw [w37f.1.rLe (by decide), w28f.1.rLe (by decide), w7f.2.1]
                     exact gv_n ln (n64_z.mp e6t)
                   · unfold gBt
                     rw [w37f.1.rLe (by decide), w28f.2.1]
                     exact gv_y ln lsM y25b (by rw [e27, n64_or])
                   · unfold gBc
                     rw [w37f.2.1]
                     exact gv_c ln y36b
                 · obtain ⟨f1, f2, f3⟩ := F q (by omega)
                   refine ⟨?_, ?_, ?_⟩
                   · unfold gBt
                     rw [w37f.1.rLe (by decide), w28f.1.rLe (by decide), w7f.2.2 q e]
                     exact f1
                   · unfold gBt
                     rw [w37f.1.rLe (by decide), w28f.2.2 q e, w7f.1.rLe (by decide)]
                     exact f2
                   · unfold gBc
                     rw [w37f.2.2 q e, w28f.1.rLe (by decide), w7f.1.rLe (by decide)]
                     exact f3)
      · --
        refine aw_step (f1 := (40, [some (.ref 34), some (.ref 3), some (.int L), some (.int M), some (.int i), some (.int x3)], [(.ref 3), (.int i), (.ref 35)])) (w1 := w) rfl rfl ?_
        refine aw_step (f1 := (41, [some (.ref 34), some (.ref 3), some (.int L), some (.int M), some (.int i), some (.int x3)], [(.int L), (.ref 3), (.int i), (.ref 35)])) (w1 := w) rfl rfl ?_
        refine aw_step (f1 := (43, [some (.ref 34), some (.ref 3), some (.int L), some (.int M), some (.int i), some (.int x3)], [(.int i), (.int L), (.ref 3), (.int i), (.ref 35)])) (w1 := w) rfl rfl ?_
        refine s_cv (z := 44) (p := 3) (as := [(.int L), (.int i)]) (st1 := [(.int i), (.ref 35)]) J 46 rfl rfl rfl rfl rfl rfl rfl rfl (Nat.le_of_ble_eq_true rfl) (Nat.le_of_ble_eq_true rfl) (e_reach R L i ⟨by omega, by omega⟩ ⟨by omega, by omega⟩ J.1) ?_
        rintro _ _ ⟨rfl, y40, rfl, y40t⟩
        refine ⟨rfl, ?_⟩
        show aw none _ 1 _ (46, [some (.ref 34), some (.ref 3), some (.int L), some (.int M), some (.int i), some (.int x3)], [(.long y40), (.int i), (.ref 35)]) w
        have lsL : lsV V L.toInt (i.toInt.toNat : Nat) (n64 y40) := by rw [show ((i.toInt.toNat : Nat) : Int) = i.toInt by omega]; exact y40t
        refine aw_step (f1 := (48, [some (.ref 34), some (.ref 3), some (.int L), some (.int M), some (.int i), some (.int x3)], [(.int i), (.long y40), (.int i), (.ref 35)])) (w1 := w) rfl rfl ?_
        refine s_cs (z := 104) (as := [(.int i)]) (st1 := [(.long y40), (.int i), (.ref 35)]) 51 rfl rfl rfl rfl rfl rfl (Nat.le_of_ble_eq_true rfl) (Nat.le_of_ble_eq_true rfl) (Nat.le_of_ble_eq_true rfl) (q_bit i) ?_
        rintro _ _ ⟨rfl, y41, rfl, y41e⟩
        refine ⟨rfl, ?_⟩
        show aw none _ 1 _ (51, [some (.ref 34), some (.ref 3), some (.int L), some (.int M), some (.int i), some (.int x3)], [(.long y41), (.long y40), (.int i), (.ref 35)]) w
        have y41b : n64 y41 = 2 ^ i.toInt.toNat := by rw [y41e]; exact n64_shl (by omega) (by omega) rfl
        refine s_l (pc1 := 52) (ls1 := [some (.ref 34), some (.ref 3), some (.int L), some (.int M), some (.int i), some (.int x3)]) (st1 := [(.int i), (.ref 35)]) rfl rfl fun y42 e43 => ?_
        have e43 : y42 = y40 ||| y41 := e43
        --
        refine aw_step (f1 := (56, [some (.ref 34), some (.ref 3), some (.int L), some (.int M), some (.int i), some (.int x3)], [(.long y42), (.int i), (.ref 35)])) (w1 := w) rfl rfl ?_
        have q_y42 := ab_any64 y42
        unfold ab_lo64 ab_hi64 at q_y42
        refine s_ls J 57 rfl rfl rfl rfl (by omega) (by omega) (by omega) (by omega) fun w44 J45 w44e => ?_
        have w44f := rL_st J.1 (p := 35) (j := i.toInt.toNat) rfl (by omega) w44e
        refine aw_step (f1 := (58, [some (.ref 34), some (.ref 3), some (.int L), some (.int M), some (.int i), some (.int x3)], [(.ref 34)])) (w1 := w44) rfl rfl ?_
        refine s_gr 36 J45 61 rfl rfl rfl rfl rfl rfl ?_
        refine aw_step (f1 := (63, [some (.ref 34), some (.ref 3), some (.int L), some (.int M), some (.int i), some (.int x3)], [(.int i), (.ref 36)])) (w1 := w44) rfl rfl ?_
        refine aw_step (f1 := (65, [some (.ref 34), some (.ref 3), some (.int L), some (.int M), some (.int i), some (.int x3)], [(.int x3), (.int i), (.ref 36)])) (w1 := w44) rfl rfl ?_
        refine s_if 84 68 rfl rfl rfl (fun (h46 : x3.toInt = 0) => ?_) (fun (h46 : ¬ (x3.toInt = 0)) => ?_)
        · --
          refine s_l (pc1 := 85) (ls1 := [some (.ref 34), some (.ref 3), some (.int L), some (.int M), some (.int i), some (.int x3)]) (st1 := [(.int i), (.ref 36)]) rfl rfl fun y47 e48 => ?_
          have e48t : y47.toInt = 0 := by rw [e48]; rfl
          have q_y47 := ab_any64 y47
          unfold ab_lo64 ab_hi64 at q_y47
          refine s_ls J45 86 rfl rfl rfl rfl (by omega) (by omega) (by omega) (by omega) fun w49 J50 w49e => ?_
          have w49f := rL_st J45.1 (p := 36) (j := i.toInt.toNat) rfl (by omega) w49e
          refine aw_step (f1 := (87, [some (.ref 34), some (.ref 3), some (.int L), some (.int M), some (.int i), some (.int x3)], [(.ref 34)])) (w1 := w49) rfl rfl ?_
          refine s_gr 37 J50 90 rfl rfl rfl rfl rfl rfl ?_
          refine aw_step (f1 := (92, [some (.ref 34), some (.ref 3), some (.int L), some (.int M), some (.int i), some (.int x3)], [(.int i), (.ref 37)])) (w1 := w49) rfl rfl ?_
          refine aw_step (f1 := (94, [some (.ref 34), some (.ref 3), some (.int L), some (.int M), some (.int i), some (.int x3)], [(.int x3), (.int i), (.ref 37)])) (w1 := w49) rfl rfl ?_
          refine s_if 105 97 rfl rfl rfl (fun (h51 : x3.toInt = 0) => ?_) (fun (h51 : ¬ (x3.toInt = 0)) => ?_)
          · --
            refine s_l (pc1 := 106) (ls1 := [some (.ref 34), some (.ref 3), some (.int L), some (.int M), some (.int i), some (.int x3)]) (st1 := [(.int i), (.ref 37)]) rfl rfl fun y52 e53 => ?_
            have e53t : y52.toInt = 0 := by rw [e53]; rfl
            have q_y52 := ab_any64 y52
            unfold ab_lo64 ab_hi64 at q_y52
            refine s_ls J50 107 rfl rfl rfl rfl (by omega) (by omega) (by omega) (by omega) fun w54 J55 w54e => ?_
            have w54f := rL_st J50.1 (p := 37) (j := i.toInt.toNat) rfl (by omega) w54e
            refine aw_step (f1 := (110, [some (.ref 34), some (.ref 3), some (.int L), some (.int M), some (.int (i + Int32.ofInt 1)), some (.int x3)], [])) (w1 := w54) rfl rfl ?_
            obtain ⟨x56, x56e⟩ : ∃ z, z = (i + Int32.ofInt 1) := ⟨_, rfl⟩
            have x56t : x56.toInt = i.toInt + (1) := by rw [x56e]; exact n_add (y := Int32.ofInt (1)) (by show _ ≤ _ + (1 : Int); omega) (by show _ + (1 : Int) ≤ _; omega)
            rw [← x56e]
            refine aw_step (f1 := (11, [some (.ref 34), some (.ref 3), some (.int L), some (.int M), some (.int x56), some (.int x3)], [])) (w1 := w54) rfl rfl ?_
            first
              | (exfalso; omega)
              | (have ln : ldN V i.toInt.toNat := ⟨by omega, by omega⟩
                 refine ih w54 x56 _ (by omega) (by omega) (by omega) J55 (((O.trans (oc w44f.1 (by decide))).trans (oc w49f.1 (by decide))).trans (oc w54f.1 (by decide))) (fun q hq => ?_) (by rw [w54f.1.fIe (by decide), w49f.1.fIe (by decide), w44f.1.fIe (by decide)]; exact hs)
                 by_cases e : q = i.toInt.toNat
                 · subst e
                   refine ⟨?_, ?_, ?_⟩
                   · unfold gBt
                     rw [w54f.1.rLe (by decide), w49f.1.rLe (by decide), w44f.2.1]
                     exact gv_y ln lsL y41b (by rw [e43, n64_or])
                   · unfold gBt
                     rw [w54f.1.rLe (by decide), w49f.2.1]
                     exact gv_n ln (n64_z.mp e48t)
                   · unfold gBc
                     rw [w54f.2.1]
                     exact gv_n ln (n64_z.mp e53t)
                 · obtain ⟨f1, f2, f3⟩ := F q (by omega)
                   refine ⟨?_, ?_, ?_⟩
                   · unfold gBt
                     rw [w54f.1.rLe (by decide), w49f.1.rLe (by decide), w44f.2.2 q e]
                     exact f1
                   · unfold gBt
                     rw [w54f.1.rLe (by decide), w49f.2.2 q e, w44f.1.rLe (by decide)]
                     exact f2
                   · unfold gBc
                     rw [w54f.2.2 q e, w49f.1.rLe (by decide), w44f.1.rLe (by decide)]
                     exact f3)
          · --
            refine aw_step (f1 := (99, [some (.ref 34), some (.ref 3), some (.int L), some (.int M), some (.int i), some (.int x3)], [(.int i), (.int i), (.ref 37)])) (w1 := w49) rfl rfl ?_
            refine s_cs (z := 104) (as := [(.int i)]) (st1 := [(.int i), (.ref 37)]) 102 rfl rfl rfl rfl rfl rfl (Nat.le_of_ble_eq_true rfl) (Nat.le_of_ble_eq_true rfl) (Nat.le_of_ble_eq_true rfl) (q_bit i) ?_
            rintro _ _ ⟨rfl, y57, rfl, y57e⟩
            refine ⟨rfl, ?_⟩
            show aw none _ 1 _ (102, [some (.ref 34), some (.ref 3), some (.int L), some (.int M), some (.int i), some (.int x3)], [(.long y57), (.int i), (.ref 37)]) w49
            have y57b : n64 y57 = 2 ^ i.toInt.toNat := by rw [y57e]; exact n64_shl (by omega) (by omega) rfl
            --
            refine aw_step (f1 := (106, [some (.ref 34), some (.ref 3), some (.int L), some (.int M), some (.int i), some (.int x3)], [(.long y57), (.int i), (.ref 37)])) (w1 := w49) rfl rfl ?_
            have q_y57 := ab_any64 y57
            unfold ab_lo64 ab_hi64 at q_y57
            refine s_ls J50 107 rfl rfl rfl rfl (by omega) (by omega) (by omega) (by omega) fun w58 J59 w58e => ?_
            have w58f := rL_st J50.1 (p := 37) (j := i.toInt.toNat) rfl (by omega) w58e
            refine aw_step (f1 := (110, [some (.ref 34), some (.ref 3), some (.int L), some (.int M), some (.int (i + Int32.ofInt 1)), some (.int x3)], [])) (w1 := w58) rfl rfl ?_
            obtain ⟨x60, x60e⟩ : ∃ z, z = (i + Int32.ofInt 1) := ⟨_, rfl⟩
            have x60t : x60.toInt = i.toInt + (1) := by rw [x60e]; exact n_add (y := Int32.ofInt (1)) (by show _ ≤ _ + (1 : Int); omega) (by show _ + (1 : Int) ≤ _; omega)
            rw [← x60e]
            refine aw_step (f1 := (11, [some (.ref 34), some (.ref 3), some (.int L), some (.int M), some (.int x60), some (.int x3)], [])) (w1 := w58) rfl rfl ?_
            first
              | (exfalso; omega)
              | (have ln : ldN V i.toInt.toNat := ⟨by omega, by omega⟩
                 refine ih w58 x60 _ (by omega) (by omega) (by omega) J59 (((O.trans (oc w44f.1 (by decide))).trans (oc w49f.1 (by decide))).trans (oc w58f.1 (by decide))) (fun q hq => ?_) (by rw [w58f.1.fIe (by decide), w49f.1.fIe (by decide), w44f.1.fIe (by decide)]; exact hs)
                 by_cases e : q = i.toInt.toNat
                 · subst e
                   refine ⟨?_, ?_, ?_⟩
                   · unfold gBt
                     rw [w58f.1.rLe (by decide), w49f.1.rLe (by decide), w44f.2.1]
                     exact gv_y ln lsL y41b (by rw [e43, n64_or])
                   · unfold gBt
                     rw [w58f.1.rLe (by decide), w49f.2.1]
                     exact gv_n ln (n64_z.mp e48t)
                   · unfold gBc
                     rw [w58f.2.1]
                     exact gv_c ln y57b
                 · obtain ⟨f1, f2, f3⟩ := F q (by omega)
                   refine ⟨?_, ?_, ?_⟩
                   · unfold gBt
                     rw [w58f.1.rLe (by decide), w49f.1.rLe (by decide), w44f.2.2 q e]
                     exact f1
                   · unfold gBt
                     rw [w58f.1.rLe (by decide), w49f.2.2 q e, w44f.1.rLe (by decide)]
                     exact f2
                   · unfold gBc
                     rw [w58f.2.2 q e, w49f.1.rLe (by decide), w44f.1.rLe (by decide)]
                     exact f3)
        · --
          refine aw_step (f1 := (69, [some (.ref 34), some (.ref 3), some (.int L), some (.int M), some (.int i), some (.int x3)], [(.ref 3), (.int i), (.ref 36)])) (w1 := w44) rfl rfl ?_
          refine aw_step (f1 := (70, [some (.ref 34), some (.ref 3), some (.int L), some (.int M), some (.int i), some (.int x3)], [(.int M), (.ref 3), (.int i), (.ref 36)])) (w1 := w44) rfl rfl ?_
          refine aw_step (f1 := (72, [some (.ref 34), some (.ref 3), some (.int L), some (.int M), some (.int i), some (.int x3)], [(.int i), (.int M), (.ref 3), (.int i), (.ref 36)])) (w1 := w44) rfl rfl ?_
          refine s_cv (z := 44) (p := 3) (as := [(.int M), (.int i)]) (st1 := [(.int i), (.ref 36)]) J45 75 rfl rfl rfl rfl rfl rfl rfl rfl (Nat.le_of_ble_eq_true rfl) (Nat.le_of_ble_eq_true rfl) (e_reach (R.of w44f.1 (by decide)) M i ⟨by omega, by omega⟩ ⟨by omega, by omega⟩ J45.1) ?_
          rintro _ _ ⟨rfl, y61, rfl, y61t⟩
          refine ⟨rfl, ?_⟩
          show aw none _ 1 _ (75, [some (.ref 34), some (.ref 3), some (.int L), some (.int M), some (.int i), some (.int x3)], [(.long y61), (.int i), (.ref 36)]) w44
          have lsM : lsV V M.toInt (i.toInt.toNat : Nat) (n64 y61) := by rw [show ((i.toInt.toNat : Nat) : Int) = i.toInt by omega]; exact y61t
          refine aw_step (f1 := (77, [some (.ref 34), some (.ref 3), some (.int L), some (.int M), some (.int i), some (.int x3)], [(.int i), (.long y61), (.int i), (.ref 36)])) (w1 := w44) rfl rfl ?_
          refine s_cs (z := 104) (as := [(.int i)]) (st1 := [(.long y61), (.int i), (.ref 36)]) 80 rfl rfl rfl rfl rfl rfl (Nat.le_of_ble_eq_true rfl) (Nat.le_of_ble_eq_true rfl) (Nat.le_of_ble_eq_true rfl) (q_bit i) ?_
          rintro _ _ ⟨rfl, y62, rfl, y62e⟩
          refine ⟨rfl, ?_⟩
          show aw none _ 1 _ (80, [some (.ref 34), some (.ref 3), some (.int L), some (.int M), some (.int i), some (.int x3)], [(.long y62), (.long y61), (.int i), (.ref 36)]) w44
          have y62b : n64 y62 = 2 ^ i.toInt.toNat := by rw [y62e]; exact n64_shl (by omega) (by omega) rfl
          refine s_l (pc1 := 81) (ls1 := [some (.ref 34), some (.ref 3), some (.int L), some (.int M), some (.int i), some (.int x3)]) (st1 := [(.int i), (.ref 36)]) rfl rfl fun y63 e64 => ?_
          have e64 : y63 = y61 ||| y62 := e64
          --
          refine aw_step (f1 := (85, [some (.ref 34), some (.ref 3), some (.int L), some (.int M), some (.int i), some (.int x3)], [(.long y63), (.int i), (.ref 36)])) (w1 := w44) rfl rfl ?_
          have q_y63 := ab_any64 y63
          unfold ab_lo64 ab_hi64 at q_y63
          refine s_ls J45 86 rfl rfl rfl rfl (by omega) (by omega) (by omega) (by omega) fun w65 J66 w65e => ?_
          have w65f := rL_st J45.1 (p := 36) (j := i.toInt.toNat) rfl (by omega) w65e
          refine aw_step (f1 := (87, [some (.ref 34), some (.ref 3), some (.int L), some (.int M), some (.int i), some (.int x3)], [(.ref 34)])) (w1 := w65) rfl rfl ?_
          refine s_gr 37 J66 90 rfl rfl rfl rfl rfl rfl ?_
          refine aw_step (f1 := (92, [some (.ref 34), some (.ref 3), some (.int L), some (.int M), some (.int i), some (.int x3)], [(.int i), (.ref 37)])) (w1 := w65) rfl rfl ?_
          refine aw_step (f1 := (94, [some (.ref 34), some (.ref 3), some (.int L), some (.int M), some (.int i), some (.int x3)], [(.int x3), (.int i), (.ref 37)])) (w1 := w65) rfl rfl ?_
          refine s_if 105 97 rfl rfl rfl (fun (h67 : x3.toInt = 0) => ?_) (fun (h67 : ¬ (x3.toInt = 0)) => ?_)
          · --
            refine s_l (pc1 := 106) (ls1 := [some (.ref 34), some (.ref 3), some (.int L), some (.int M), some (.int i), some (.int x3)]) (st1 := [(.int i), (.ref 37)]) rfl rfl fun y68 e69 => ?_
            have e69t : y68.toInt = 0 := by rw [e69]; rfl
            have q_y68 := ab_any64 y68
            unfold ab_lo64 ab_hi64 at q_y68
            refine s_ls J66 107 rfl rfl rfl rfl (by omega) (by omega) (by omega) (by omega) fun w70 J71 w70e => ?_
            have w70f := rL_st J66.1 (p := 37) (j := i.toInt.toNat) rfl (by omega) w70e
            refine aw_step (f1 := (110, [some (.ref 34), some (.ref 3), some (.int L), some (.int M), some (.int (i + Int32.ofInt 1)), some (.int x3)], [])) (w1 := w70) rfl rfl ?_
            obtain ⟨x72, x72e⟩ : ∃ z, z = (i + Int32.ofInt 1) := ⟨_, rfl⟩
            have x72t : x72.toInt = i.toInt + (1) := by rw [x72e]; exact n_add (y := Int32.ofInt (1)) (by show _ ≤ _ + (1 : Int); omega) (by show _ + (1 : Int) ≤ _; omega)
            rw [← x72e]
            refine aw_step (f1 := (11, [some (.ref 34), some (.ref 3), some (.int L), some (.int M), some (.int x72), some (.int x3)], [])) (w1 := w70) rfl rfl ?_
            first
              | (exfalso; omega)
              | (have ln : ldN V i.toInt.toNat := ⟨by omega, by omega⟩
                 refine ih w70 x72 _ (by omega) (by omega) (by omega) J71 (((O.trans (oc w44f.1 (by decide))).trans (oc w65f.1 (by decide))).trans (oc w70f.1 (by decide))) (fun q hq => ?_) (by rw [w70f.1.fIe (by decide), w65f.1.fIe (by decide), w44f.1.fIe (by decide)]; exact hs)
                 by_cases e : q = i.toInt.toNat
                 · subst e
                   refine ⟨?_, ?_, ?_⟩
                   · unfold gBt
                     rw [w70f.1.rLe (by decide), w65f.1.rLe (by decide), w44f.2.1]
                     exact gv_y ln lsL y41b (by rw [e43, n64_or])
                   · unfold gBt
                     rw [w70f.1.rLe (by decide), w65f.2.1]
                     exact gv_y ln lsM y62b (by rw [e64, n64_or])
                   · unfold gBc
                     rw [w70f.2.1]
                     exact gv_n ln (n64_z.mp e69t)
                 · obtain ⟨f1, f2, f3⟩ := F q (by omega)
                   refine ⟨?_, ?_, ?_⟩
                   · unfold gBt
                     rw [w70f.1.rLe (by decide), w65f.1.rLe (by decide), w44f.2.2 q e]
                     exact f1
                   · unfold gBt
                     rw [w70f.1.rLe (by decide), w65f.2.2 q e, w44f.1.rLe (by decide)]
                     exact f2
                   · unfold gBc
                     rw [w70f.2.2 q e, w65f.1.rLe (by decide), w44f.1.rLe (by decide)]
                     exact f3)
          · --
            refine aw_step (f1 := (99, [some (.ref 34), some (.ref 3), some (.int L), some (.int M), some (.int i), some (.int x3)], [(.int i), (.int i), (.ref 37)])) (w1 := w65) rfl rfl ?_
            refine s_cs (z := 104) (as := [(.int i)]) (st1 := [(.int i), (.ref 37)]) 102 rfl rfl rfl rfl rfl rfl (Nat.le_of_ble_eq_true rfl) (Nat.le_of_ble_eq_true rfl) (Nat.le_of_ble_eq_true rfl) (q_bit i) ?_
            rintro _ _ ⟨rfl, y73, rfl, y73e⟩
            refine ⟨rfl, ?_⟩
            show aw none _ 1 _ (102, [some (.ref 34), some (.ref 3), some (.int L), some (.int M), some (.int i), some (.int x3)], [(.long y73), (.int i), (.ref 37)]) w65
            have y73b : n64 y73 = 2 ^ i.toInt.toNat := by rw [y73e]; exact n64_shl (by omega) (by omega) rfl
            --
            refine aw_step (f1 := (106, [some (.ref 34), some (.ref 3), some (.int L), some (.int M), some (.int i), some (.int x3)], [(.long y73), (.int i), (.ref 37)])) (w1 := w65) rfl rfl ?_
            have q_y73 := ab_any64 y73
            unfold ab_lo64 ab_hi64 at q_y73
            refine s_ls J66 107 rfl rfl rfl rfl (by omega) (by omega) (by omega) (by omega) fun w74 J75 w74e => ?_
            have w74f := rL_st J66.1 (p := 37) (j := i.toInt.toNat) rfl (by omega) w74e
            refine aw_step (f1 := (110, [some (.ref 34), some (.ref 3), some (.int L), some (.int M), some (.int (i + Int32.ofInt 1)), some (.int x3)], [])) (w1 := w74) rfl rfl ?_
            obtain ⟨x76, x76e⟩ : ∃ z, z = (i + Int32.ofInt 1) := ⟨_, rfl⟩
            have x76t : x76.toInt = i.toInt + (1) := by rw [x76e]; exact n_add (y := Int32.ofInt (1)) (by show _ ≤ _ + (1 : Int); omega) (by show _ + (1 : Int) ≤ _; omega)
            rw [← x76e]
            refine aw_step (f1 := (11, [some (.ref 34), some (.ref 3), some (.int L), some (.int M), some (.int x76), some (.int x3)], [])) (w1 := w74) rfl rfl ?_
            first
              | (exfalso; omega)
              | (have ln : ldN V i.toInt.toNat := ⟨by omega, by omega⟩
                 refine ih w74 x76 _ (by omega) (by omega) (by omega) J75 (((O.trans (oc w44f.1 (by decide))).trans (oc w65f.1 (by decide))).trans (oc w74f.1 (by decide))) (fun q hq => ?_) (by rw [w74f.1.fIe (by decide), w65f.1.fIe (by decide), w44f.1.fIe (by decide)]; exact hs)
                 by_cases e : q = i.toInt.toNat
                 · subst e
                   refine ⟨?_, ?_, ?_⟩
                   · unfold gBt
                     rw [w74f.1.rLe (by decide), w65f.1.rLe (by decide), w44f.2.1]
                     exact gv_y ln lsL y41b (by rw [e43, n64_or])
                   · unfold gBt
                     rw [w74f.1.rLe (by decide), w65f.2.1]
                     exact gv_y ln lsM y62b (by rw [e64, n64_or])
                   · unfold gBc
                     rw [w74f.2.1]
                     exact gv_c ln y73b
                 · obtain ⟨f1, f2, f3⟩ := F q (by omega)
                   refine ⟨?_, ?_, ?_⟩
                   · unfold gBt
                     rw [w74f.1.rLe (by decide), w65f.1.rLe (by decide), w44f.2.2 q e]
                     exact f1
                   · unfold gBt
                     rw [w74f.1.rLe (by decide), w65f.2.2 q e, w44f.1.rLe (by decide)]
                     exact f2
                   · unfold gBc
                     rw [w74f.2.2 q e, w65f.1.rLe (by decide), w44f.1.rLe (by decide)]
                     exact f3)
theorem e_begin {d : Nat} {w : am_W} {V : Nat → Int} (R : RCs w 3 V) (L M : Int32) (hL : 1 ≤ L.toInt ∧ L.toInt ≤ 50) (hM : 1 ≤ M.toInt ∧ M.toInt ≤ 50) (I : ab_inv ab_TT ab_sets w) : aw none (d + 3) 1 (fun r w1 => r = none ∧ ab_J ab_TT ab_sets ab_WR w w1 ∧ only [34, 35, 36, 37] w w1 ∧ fI w1 34 4 = szV V ∧ bgI V L.toInt M.toInt (rL w1 35) (rL w1 36) (rL w1 37) (szV V)) (0, am_entry 1 [.ref 34, .ref 3, .int L, .int M], []) w := by
  have J : ab_J ab_TT ab_sets ab_WR w w := ⟨I, ab_fr.rf⟩
  have szc := szC_in I
  have hsz := R.sz
  show aw none (d + 3) 1 _ (0, [some (.ref 34), some (.ref 3), some (.int L), some (.int M), none, none], []) w
  refine aw_step (f1 := (1, [some (.ref 34), some (.ref 3), some (.int L), some (.int M), none, none], [(.ref 34)])) (w1 := w) rfl rfl ?_
  refine aw_step (f1 := (2, [some (.ref 34), some (.ref 3), some (.int L), some (.int M), none, none], [(.ref 3), (.ref 34)])) (w1 := w) rfl rfl ?_
  refine s_cv (z := 38) (p := 3) (as := []) (st1 := [(.ref 34)]) J 5 rfl rfl rfl rfl rfl rfl rfl rfl (Nat.le_of_ble_eq_true rfl) (Nat.le_of_ble_eq_true rfl) (q_size J.1) ?_
  rintro _ _ ⟨rfl, x1, rfl, x1t⟩
  refine ⟨rfl, ?_⟩
  show aw none _ 1 _ (5, [some (.ref 34), some (.ref 3), some (.int L), some (.int M), none, none], [(.int x1), (.ref 34)]) w
  refine s_pi J 8 rfl rfl rfl rfl rfl rfl rfl (by omega) (by omega) fun w2 J3 w2e => ?_
  have w2f := fv_st J.1 (p := 34) (kf := 4) rfl (by decide) w2e
  refine s_i (pc1 := 9) (ls1 := [some (.ref 34), some (.ref 3), some (.int L), some (.int M), none, none]) (st1 := []) rfl rfl fun x4 e5 => ?_
  have e5t : x4.toInt = 0 := by rw [e5]; rfl
  refine aw_step (f1 := (11, [some (.ref 34), some (.ref 3), some (.int L), some (.int M), some (.int x4), none], [])) (w1 := w2) rfl rfl ?_
  exact e_bgL R L M hL hM 37 w2 x4 _ (by omega) (by omega) (by omega) J3 (oc w2f.1 (by decide)) (fun q hq => by omega) (by rw [fI_of w2f.2.1]; omega)
/-- the thief's ways out, so far -/
noncomputable def coI (y z : Nat → Nat) (t a : Nat) (i : Int) : Prop := ∀ g, g < 64 → (bt a g = 1 ↔ ∀ t' : Nat, (t' : Int) < i → bt (y t) t' = 1 → bt (z t') g = 1)
theorem coI.no {y z : Nat → Nat} {t a : Nat} {i : Int} (h : coI y z t a i) (h0 : 0 ≤ i) (q : bt (y t) i.toNat ≠ 1) : coI y z t a (i + 1) := fun g hg => (h g hg).trans ⟨fun u t' ht hb => u t' (by
    have : t' ≠ i.toNat := fun e => q (by rw [← e]; exact hb)
    omega) hb, fun u t' ht hb => u t' (by omega) hb⟩
theorem coI.ye {y z : Nat → Nat} {t a a' b : Nat} {i : Int} (h : coI y z t a i) (h0 : 0 ≤ i) (q : bt (y t) i.toNat = 1) (e : b = z i.toNat) (e2 : a' = a &&& b) : coI y z t a' (i + 1) := fun g hg => by
  have hh := h g hg
  have l1 := bt_le a g
  have l2 := bt_le (z i.toNat) g
  rw [e2, e, bt_and]
  constructor
  · intro u t' ht hb
    by_cases v : t' = i.toNat
    · rw [v]; omega
    · exact hh.mp (by omega) t' (by omega) hb
  · intro u
    have u1 := u i.toNat (by omega) q
    have u2 := hh.mpr fun t' ht hb => u t' (by omega) hb
    omega
/-- cornered, of one cell of the thief -/
noncomputable def coP (V : Nat → Int) (M : Int) (z x : Nat → Nat) (t : Nat) : Prop := ∀ g, bt (x t) g = 1 ↔ ldN V t ∧ (g = t ∨ ∀ t', (t' = t ∨ eV V M t t') → bt (z t') g = 1)
theorem coP.y {V : Nat → Int} {M : Int} {y z x : Nat → Nat} {t a b : Nat} (hz : szV V ≤ 36) (hy : ∀ t : Nat, (t : Int) < szV V → gBt V M y t) (h : coI y z t a (szV V)) (ht : ldN V t) (hb : b = 2 ^ t) (a64 : a < 2 ^ 64) (h64 : ∀ g, ¬ g < 64 → bt (z t) g = 0) (e : x t = a ||| b) : coP V M z x t := fun g => by
  have l1 := bt_le a g
  rw [e, hb, bt_or, bt_pow]
  have yt := hy t ht.1
  have main : bt a g = 1 ↔ g < 64 ∧ ∀ t', (t' = t ∨ eV V M t t') → bt (z t') g = 1 := by
    by_cases q : g < 64
    · refine (h g q).trans ⟨fun u => ⟨q, fun t' ht' => ?_⟩, fun u t' ht' hb' => ?_⟩
      · have s : (t' : Int) < szV V := by
          rcases ht' with v | v
          · rw [v]; exact ht.1
          · exact v.1.1
        exact u t' s ((yt t').mpr ⟨ht, ht'⟩)
      · exact u.2 t' ((yt t').mp hb').2
    · rw [bt_hi a64 (by omega)]
      exact ⟨fun u => by omega, fun u => absurd u.1 q⟩
  by_cases q : t = g
  · rw [if_pos q]
    exact ⟨fun _ => ⟨ht, Or.inl q.symm⟩, fun _ => by omega⟩
  · rw [if_neg q]
    constructor
    · intro u
      exact ⟨ht, Or.inr (main.mp (by omega)).2⟩
    · rintro ⟨-, u | u⟩
      · exact absurd u.symm q
      · by_cases v : g < 64
        · have := main.mpr ⟨v, u⟩; omega
        · exfalso
          have := u t (Or.inl rfl)
          exact v (by
            apply Classical.byContradiction
            intro n
            exact absurd this (by rw [h64 g n]; omega))
theorem coP.n {V : Nat → Int} {M : Int} {z x : Nat → Nat} {t : Nat} (ht : ¬ ldN V t) (e : x t = 0) : coP V M z x t := fun g => by
  rw [e, bt_z]
  exact ⟨fun u => by omega, fun u => absurd u.1 ht⟩
theorem e_coI {d : Nat} {Q : Option Value → am_W → Prop} {w00 w : am_W} (J : ab_J ab_TT ab_sets ab_WR w00 w) (hs : 0 ≤ fI w 34 4 ∧ fI w 34 4 ≤ 36) (t : Int32) (ht : 0 ≤ t.toInt ∧ t.toInt < fI w 34 4) (K : ∀ (al : Int64) (i : Int32), coI (rL w 36) (rL w 37) t.toInt.toNat (n64 al) (fI w 34 4) → aw none (d + 1) 3 Q (56, [some (.ref 34), some (.int t), some (.long al), none, some (.int i)], []) w) : ∀ (m : Nat) (al : Int64) (i : Int32), (fI w 34 4 - i.toInt).toNat < m → 0 ≤ i.toInt → i.toInt ≤ fI w 34 4 → coI (rL w 36) (rL w 37) t.toInt.toNat (n64 al) i.toInt → aw none (d + 1) 3 Q (17, [some (.ref 34), some (.int t), some (.long al), none, some (.int i)], []) w := by
  intro m
  induction m with
  | zero => intro al i p; omega
  | succ m ih =>
    intro al i p1 p2 p3 F
    refine aw_step (f1 := (19, [some (.ref 34), some (.int t), some (.long al), none, some (.int i)], [(.int i)])) (w1 := w) rfl rfl ?_
    refine aw_step (f1 := (20, [some (.ref 34), some (.int t), some (.long al), none, some (.int i)], [(.ref 34), (.int i)])) (w1 := w) rfl rfl ?_
    refine s_gi J 23 rfl rfl rfl rfl rfl rfl fun x1 x1a x1b x1f => ?_
    have x1v : x1.toInt = fI w 34 4 := by rw [← fI_of x1f]
    refine s_ic 56 26 rfl rfl rfl (fun (h2 : x1.toInt ≤ i.toInt) => ?_) (fun (h2 : ¬ (x1.toInt ≤ i.toInt)) => ?_)
    · --
      exact K al i (by rw [← show i.toInt = fI w 34 4 by omega]; exact F)
    · --
      refine aw_step (f1 := (27, [some (.ref 34), some (.int t), some (.long al), none, some (.int i)], [(.ref 34)])) (w1 := w) rfl rfl ?_
      refine s_gr 36 J 30 rfl rfl rfl rfl rfl rfl ?_
      refine aw_step (f1 := (31, [some (.ref 34), some (.int t), some (.long al), none, some (.int i)], [(.int t), (.ref 36)])) (w1 := w) rfl rfl ?_
      refine s_la J 32 rfl rfl rfl (by omega) (by omega) fun y3 y3a y3b y3f => ?_
      have ty : rL w 36 t.toInt.toNat = n64 y3 := rL_of y3f
      refine aw_step (f1 := (34, [some (.ref 34), some (.int t), some (.long al), none, some (.int i)], [(.int i), (.long y3)])) (w1 := w) rfl rfl ?_
      refine s_cs (z := 105) (as := [(.long y3), (.int i)]) (st1 := []) 37 rfl rfl rfl rfl rfl rfl (Nat.le_of_ble_eq_true rfl) (Nat.le_of_ble_eq_true rfl) (Nat.le_of_ble_eq_true rfl) (q_hasC y3 i (by omega) (by omega)) ?_
      rintro _ _ ⟨rfl, x4, rfl, x4t⟩
      refine ⟨rfl, ?_⟩
      show aw none _ 3 _ (37, [some (.ref 34), some (.int t), some (.long al), none, some (.int i)], [(.int x4)]) w
      have x4l := bt_le (n64 y3) i.toInt.toNat
      refine s_if 50 40 rfl rfl rfl (fun (h5 : x4.toInt = 0) => ?_) (fun (h5 : ¬ (x4.toInt = 0)) => ?_)
      · --
        refine aw_step (f1 := (53, [some (.ref 34), some (.int t), some (.long al), none, some (.int (i + Int32.ofInt 1))], [])) (w1 := w) rfl rfl ?_
        obtain ⟨x6, x6e⟩ : ∃ z, z = (i + Int32.ofInt 1) := ⟨_, rfl⟩
        have x6t : x6.toInt = i.toInt + (1) := by rw [x6e]; exact n_add (y := Int32.ofInt (1)) (by show _ ≤ _ + (1 : Int); omega) (by show _ + (1 : Int) ≤ _; omega)
        rw [← x6e]
        refine aw_step (f1 := (17, [some (.ref 34), some (.int t), some (.long al), none, some (.int x6)], [])) (w1 := w) rfl rfl ?_
        exact ih al x6 (by omega) (by omega) (by omega) (by rw [show x6.toInt = i.toInt + 1 by omega]; exact F.no (by omega) (by rw [ty]; omega))
      · --
        refine aw_step (f1 := (41, [some (.ref 34), some (.int t), some (.long al), none, some (.int i)], [(.long al)])) (w1 := w) rfl rfl ?_
        refine aw_step (f1 := (42, [some (.ref 34), some (.int t), some (.long al), none, some (.int i)], [(.ref 34), (.long al)])) (w1 := w) rfl rfl ?_
        refine s_gr 37 J 45 rfl rfl rfl rfl rfl rfl ?_
        refine aw_step (f1 := (47, [some (.ref 34), some (.int t), some (.long al), none, some (.int i)], [(.int i), (.ref 37), (.long al)])) (w1 := w) rfl rfl ?_
        refine s_la J 48 rfl rfl rfl (by omega) (by omega) fun y7 y7a y7b y7f => ?_
        have cy : n64 y7 = rL w 37 i.toInt.toNat := (rL_of y7f).symm
        refine s_l (pc1 := 49) (ls1 := [some (.ref 34), some (.int t), some (.long al), none, some (.int i)]) (st1 := []) rfl rfl fun y8 e9 => ?_
        have e9 : y8 = al &&& y7 := e9
        refine aw_step (f1 := (50, [some (.ref 34), some (.int t), some (.long y8), none, some (.int i)], [])) (w1 := w) rfl rfl ?_
        refine aw_step (f1 := (53, [some (.ref 34), some (.int t), some (.long y8), none, some (.int (i + Int32.ofInt 1))], [])) (w1 := w) rfl rfl ?_
        obtain ⟨x10, x10e⟩ : ∃ z, z = (i + Int32.ofInt 1) := ⟨_, rfl⟩
        have x10t : x10.toInt = i.toInt + (1) := by rw [x10e]; exact n_add (y := Int32.ofInt (1)) (by show _ ≤ _ + (1 : Int); omega) (by show _ + (1 : Int) ≤ _; omega)
        rw [← x10e]
        refine aw_step (f1 := (17, [some (.ref 34), some (.int t), some (.long y8), none, some (.int x10)], [])) (w1 := w) rfl rfl ?_
        exact ih y8 x10 (by omega) (by omega) (by omega) (by rw [show x10.toInt = i.toInt + 1 by omega]; exact F.ye (by omega) (by rw [ty]; omega) cy (by rw [e9, n64_and]))
theorem rL_lt (w : am_W) (p j : Nat) : rL w p j < 2 ^ 64 := by
  unfold rL
  split
  · exact n64_lt _
  · decide
theorem e_coO {d : Nat} {w00 : am_W} {V : Nat → Int} {M : Int} (hz : szV V ≤ 36) (hs0 : fI w00 34 4 = szV V) (hy0 : ∀ t : Nat, (t : Int) < szV V → gBt V M (rL w00 36) t) : ∀ (m : Nat) (w : am_W) (t : Int32) (o2 o3 o4 : Option Value), (szV V - t.toInt).toNat < m → 0 ≤ t.toInt → t.toInt ≤ szV V → ab_J ab_TT ab_sets ab_WR w00 w → only [38] w00 w → (∀ q : Nat, (q : Int) < t.toInt → coP V M (rL w00 37) (rL w 38) q) → aw none (d + 1) 3 (fun r w1 => r = none ∧ ab_J ab_TT ab_sets ab_WR w00 w1 ∧ only [38] w00 w1 ∧ ∀ t : Nat, (t : Int) < szV V → coP V M (rL w00 37) (rL w1 38) t) (2, [some (.ref 34), some (.int t), o2, o3, o4], []) w := by
  intro m
  induction m with
  | zero => intro w t o2 o3 o4 p; omega
  | succ m ih =>
    intro w t o2 o3 o4 p1 p2 p3 J O F
    have hs : fI w 34 4 = szV V := by rw [O.fIe (by decide)]; exact hs0
    have r37 : rL w 37 = rL w00 37 := by funext j; exact O.rLe (by decide)
    have hy : ∀ t : Nat, (t : Int) < szV V → gBt V M (rL w 36) t := fun a h j => by rw [O.rLe (by decide)]; exact hy0 a h j
    refine aw_step (f1 := (3, [some (.ref 34), some (.int t), o2, o3, o4], [(.int t)])) (w1 := w) rfl rfl ?_
    refine aw_step (f1 := (4, [some (.ref 34), some (.int t), o2, o3, o4], [(.ref 34), (.int t)])) (w1 := w) rfl rfl ?_
    refine s_gi J 7 rfl rfl rfl rfl rfl rfl fun x1 x1a x1b x1f => ?_
    have x1v : x1.toInt = fI w 34 4 := by rw [← fI_of x1f]
    refine s_ic 89 10 rfl rfl rfl (fun (h2 : x1.toInt ≤ t.toInt) => ?_) (fun (h2 : ¬ (x1.toInt ≤ t.toInt)) => ?_)
    · --
      refine aw_ret (v := none) rfl rfl ?_
      exact ⟨rfl, J, O, fun q hq => F q (by omega)⟩
    · --
      refine s_l (pc1 := 13) (ls1 := [some (.ref 34), some (.int t), o2, o3, o4]) (st1 := []) rfl rfl fun y3 e4 => ?_
      have e4t : y3.toInt = -1 := by rw [e4]; rfl
      refine aw_step (f1 := (14, [some (.ref 34), some (.int t), some (.long y3), none, o4], [])) (w1 := w) rfl rfl ?_
      refine s_i (pc1 := 15) (ls1 := [some (.ref 34), some (.int t), some (.long y3), none, o4]) (st1 := []) rfl rfl fun x5 e6 => ?_
      have e6t : x5.toInt = 0 := by rw [e6]; rfl
      refine aw_step (f1 := (17, [some (.ref 34), some (.int t), some (.long y3), none, some (.int x5)], [])) (w1 := w) rfl rfl ?_
      refine e_coI J ⟨by omega, by omega⟩ t ⟨by omega, by omega⟩ (fun a9 i9 A9 => ?_) 37 y3 x5 (by omega) (by omega) (by omega) (fun g hg => ⟨fun _ t' h => by omega, fun _ => m1_bt (by omega) g hg⟩)
      rw [hs] at A9
      have h37 : ∀ g, ¬ g < 64 → bt (rL w 37 t.toInt.toNat) g = 0 := fun g hg => bt_hi (rL_lt w 37 _) (by omega)
      refine aw_step (f1 := (57, [some (.ref 34), some (.int t), some (.long a9), none, some (.int i9)], [(.ref 34)])) (w1 := w) rfl rfl ?_
      refine s_gr 38 J 60 rfl rfl rfl rfl rfl rfl ?_
      refine aw_step (f1 := (61, [some (.ref 34), some (.int t), some (.long a9), none, some (.int i9)], [(.int t), (.ref 38)])) (w1 := w) rfl rfl ?_
      refine aw_step (f1 := (62, [some (.ref 34), some (.int t), some (.long a9), none, some (.int i9)], [(.ref 34), (.int t), (.ref 38)])) (w1 := w) rfl rfl ?_
      refine s_gr 36 J 65 rfl rfl rfl rfl rfl rfl ?_
      refine aw_step (f1 := (66, [some (.ref 34), some (.int t), some (.long a9), none, some (.int i9)], [(.int t), (.ref 36), (.int t), (.ref 38)])) (w1 := w) rfl rfl ?_
      refine s_la J 67 rfl rfl rfl (by omega) (by omega) fun zy1 zy1a zy1b zy1f => ?_
      have ty9 : rL w 36 t.toInt.toNat = n64 zy1 := rL_of zy1f
      have yl9 : zy1.toInt ≠ 0 ↔ ldN V t.toInt.toNat := by
        constructor
        · intro z
          obtain ⟨j, hj⟩ := bt_some (a := n64 zy1) (fun e => z (n64_z.mpr e))
          rw [← ty9] at hj
          exact ((hy t.toInt.toNat (by omega) j).mp hj).1
        · intro z e
          have := (hy t.toInt.toNat (by omega) t.toInt.toNat).mpr ⟨z, Or.inl rfl⟩
          rw [ty9, n64_z.mp e, bt_z] at this
          omega
      refine s_l (pc1 := 68) (ls1 := [some (.ref 34), some (.int t), some (.long a9), none, some (.int i9)]) (st1 := [(.long zy1), (.int t), (.ref 38)]) rfl rfl fun zy2 ze3 => ?_
      have ze3t : zy2.toInt = 0 := by rw [ze3]; rfl
      refine s_lc 76 72 69 rfl rfl rfl rfl rfl (fun (zh4 : ¬ zy1.toInt = zy2.toInt) => ?_) (fun (zh4 : ¬ (¬ zy1.toInt = zy2.toInt)) => ?_)
      · --
        --
        refine aw_step (f1 := (77, [some (.ref 34), some (.int t), some (.long a9), none, some (.int i9)], [(.long a9), (.int t), (.ref 38)])) (w1 := w) rfl rfl ?_
        refine aw_step (f1 := (78, [some (.ref 34), some (.int t), some (.long a9), none, some (.int i9)], [(.int t), (.long a9), (.int t), (.ref 38)])) (w1 := w) rfl rfl ?_
        refine s_cs (z := 104) (as := [(.int t)]) (st1 := [(.long a9), (.int t), (.ref 38)]) 81 rfl rfl rfl rfl rfl rfl (Nat.le_of_ble_eq_true rfl) (Nat.le_of_ble_eq_true rfl) (Nat.le_of_ble_eq_true rfl) (q_bit t) ?_
        rintro _ _ ⟨rfl, zy5, rfl, zy5e⟩
        refine ⟨rfl, ?_⟩
        show aw none _ 3 _ (81, [some (.ref 34), some (.int t), some (.long a9), none, some (.int i9)], [(.long zy5), (.long a9), (.int t), (.ref 38)]) w
        have zy5b : n64 zy5 = 2 ^ t.toInt.toNat := by rw [zy5e]; exact n64_shl (by omega) (by omega) rfl
        refine s_l (pc1 := 82) (ls1 := [some (.ref 34), some (.int t), some (.long a9), none, some (.int i9)]) (st1 := [(.int t), (.ref 38)]) rfl rfl fun zy6 ze7 => ?_
        have ze7 : zy6 = a9 ||| zy5 := ze7
        have q_zy6 := ab_any64 zy6
        unfold ab_lo64 ab_hi64 at q_zy6
        refine s_ls J 83 rfl rfl rfl rfl (by omega) (by omega) (by omega) (by omega) fun zw8 zJ9 zw8e => ?_
        have zw8f := rL_st J.1 (p := 38) (j := t.toInt.toNat) rfl (by omega) zw8e
        refine aw_step (f1 := (86, [some (.ref 34), some (.int (t + Int32.ofInt 1)), some (.long a9), none, some (.int i9)], [])) (w1 := zw8) rfl rfl ?_
        obtain ⟨zx10, zx10e⟩ : ∃ z, z = (t + Int32.ofInt 1) := ⟨_, rfl⟩
        have zx10t : zx10.toInt = t.toInt + (1) := by rw [zx10e]; exact n_add (y := Int32.ofInt (1)) (by show _ ≤ _ + (1 : Int); omega) (by show _ + (1 : Int) ≤ _; omega)
        rw [← zx10e]
        refine aw_step (f1 := (2, [some (.ref 34), some (.int zx10), some (.long a9), none, some (.int i9)], [])) (w1 := zw8) rfl rfl ?_
        have lt : ldN V t.toInt.toNat := yl9.mp (by omega)
        refine ih zw8 zx10 _ _ _ (by omega) (by omega) (by omega) zJ9 (O.trans zw8f.1) (fun q hq => ?_)
        rw [← r37]
        by_cases e : q = t.toInt.toNat
        · subst e
          exact coP.y (by omega) hy A9 lt zy5b (n64_lt _) (fun g hg => by rw [h37 g hg]) (by rw [zw8f.2.1, ze7, n64_or])
        · intro g
          rw [zw8f.2.2 q e, r37]
          exact F q (by omega) g
      · --
        --
        refine s_l (pc1 := 73) (ls1 := [some (.ref 34), some (.int t), some (.long a9), none, some (.int i9)]) (st1 := [(.int t), (.ref 38)]) rfl rfl fun zy11 ze12 => ?_
        have ze12t : zy11.toInt = 0 := by rw [ze12]; rfl
        refine aw_step (f1 := (82, [some (.ref 34), some (.int t), some (.long a9), none, some (.int i9)], [(.long zy11), (.int t), (.ref 38)])) (w1 := w) rfl rfl ?_
        have q_zy11 := ab_any64 zy11
        unfold ab_lo64 ab_hi64 at q_zy11
        refine s_ls J 83 rfl rfl rfl rfl (by omega) (by omega) (by omega) (by omega) fun zw13 zJ14 zw13e => ?_
        have zw13f := rL_st J.1 (p := 38) (j := t.toInt.toNat) rfl (by omega) zw13e
        refine aw_step (f1 := (86, [some (.ref 34), some (.int (t + Int32.ofInt 1)), some (.long a9), none, some (.int i9)], [])) (w1 := zw13) rfl rfl ?_
        obtain ⟨zx15, zx15e⟩ : ∃ z, z = (t + Int32.ofInt 1) := ⟨_, rfl⟩
        have zx15t : zx15.toInt = t.toInt + (1) := by rw [zx15e]; exact n_add (y := Int32.ofInt (1)) (by show _ ≤ _ + (1 : Int); omega) (by show _ + (1 : Int) ≤ _; omega)
        rw [← zx15e]
        refine aw_step (f1 := (2, [some (.ref 34), some (.int zx15), some (.long a9), none, some (.int i9)], [])) (w1 := zw13) rfl rfl ?_
        have lt : ¬ ldN V t.toInt.toNat := fun z => by have := yl9.mpr z; omega
        refine ih zw13 zx15 _ _ _ (by omega) (by omega) (by omega) zJ14 (O.trans zw13f.1) (fun q hq => ?_)
        rw [← r37]
        by_cases e : q = t.toInt.toNat
        · subst e
          exact coP.n lt (by rw [zw13f.2.1]; exact n64_z.mp ze12t)
        · intro g
          rw [zw13f.2.2 q e, r37]
          exact F q (by omega) g
theorem e_corner {d : Nat} {w : am_W} {V : Nat → Int} {M : Int} (hz : szV V ≤ 36) (hz0 : 0 ≤ szV V) (hs : fI w 34 4 = szV V) (hy : ∀ t : Nat, (t : Int) < szV V → gBt V M (rL w 36) t) (I : ab_inv ab_TT ab_sets w) : aw none (d + 1) 3 (fun r w1 => r = none ∧ ab_J ab_TT ab_sets ab_WR w w1 ∧ only [38] w w1 ∧ ∀ t : Nat, (t : Int) < szV V → coP V M (rL w 37) (rL w1 38) t) (0, am_entry 3 [.ref 34], []) w := by
  have J : ab_J ab_TT ab_sets ab_WR w w := ⟨I, ab_fr.rf⟩
  show aw none (d + 1) 3 _ (0, [some (.ref 34), none, none, none, none], []) w
  refine s_i (pc1 := 1) (ls1 := [some (.ref 34), none, none, none, none]) (st1 := []) rfl rfl fun x1 e2 => ?_
  have e2t : x1.toInt = 0 := by rw [e2]; rfl
  refine aw_step (f1 := (2, [some (.ref 34), some (.int x1), none, none, none], [])) (w1 := w) rfl rfl ?_
  exact e_coO hz hs hy 37 w x1 _ _ _ (by omega) (by omega) (by omega) J only.rf (fun q hq => by omega)
/-- the cells that lead into the cornering ones, so far -/
noncomputable def clI (x y : Nat → Nat) (t a : Nat) (i : Int) : Prop := ∀ g, bt a g = 1 ↔ ∃ c : Nat, (c : Int) < i ∧ bt (x t) c = 1 ∧ bt (y c) g = 1
theorem clI.no {x y : Nat → Nat} {t a : Nat} {i : Int} (h : clI x y t a i) (h0 : 0 ≤ i) (q : bt (x t) i.toNat ≠ 1) : clI x y t a (i + 1) := fun g => (h g).trans ⟨fun ⟨c, c1, c2, c3⟩ => ⟨c, by omega, c2, c3⟩, fun ⟨c, c1, c2, c3⟩ => ⟨c, by
    have : c ≠ i.toNat := fun e => q (by rw [← e]; exact c2)
    omega, c2, c3⟩⟩
theorem clI.ye {x y : Nat → Nat} {t a a' b : Nat} {i : Int} (h : clI x y t a i) (h0 : 0 ≤ i) (q : bt (x t) i.toNat = 1) (e : b = y i.toNat) (e2 : a' = a ||| b) : clI x y t a' (i + 1) := fun g => by
  have hh := h g
  have l1 := bt_le a g
  have l2 := bt_le (y i.toNat) g
  rw [e2, e, bt_or]
  constructor
  · intro u
    by_cases v : bt a g = 1
    · obtain ⟨c, c1, c2, c3⟩ := hh.mp v
      exact ⟨c, by omega, c2, c3⟩
    · exact ⟨i.toNat, by omega, q, by omega⟩
  · rintro ⟨c, c1, c2, c3⟩
    by_cases v : c = i.toNat
    · rw [v] at c3; omega
    · have := hh.mpr ⟨c, by omega, c2, c3⟩; omega
noncomputable def clG (g i : Int) (r r0 : Nat → Nat) : Prop := (g = 1 ∧ ∃ q : Nat, (q : Int) < i ∧ r q ≠ r0 q) ∨ (g = 0 ∧ ∀ q : Nat, (q : Int) < i → r q = r0 q)
theorem i_or01 {x y : Int32} (hx : x.toInt = 0 ∨ x.toInt = 1) (hy : y.toInt = 0 ∨ y.toInt = 1) : ((x ||| y).toInt = 1 ∧ (x.toInt = 1 ∨ y.toInt = 1)) ∨ ((x ||| y).toInt = 0 ∧ x.toInt = 0 ∧ y.toInt = 0) := by
  have z0 : ∀ {x : Int32}, x.toInt = 0 → x = 0 := fun h => Int32.toInt_inj.mp (by rw [h]; rfl)
  rcases hx with hx | hx <;> rcases hy with hy | hy
  · have a := z0 hx; have b := z0 hy; subst a; subst b; decide
  · have a := z0 hx; have b := n_1 hy; subst a; subst b; decide
  · have a := n_1 hx; have b := z0 hy; subst a; subst b; decide
  · have a := n_1 hx; have b := n_1 hy; subst a; subst b; decide
theorem e_clI {d : Nat} {Q : Option Value → am_W → Prop} {w00 w : am_W} (J : ab_J ab_TT ab_sets ab_WR w00 w) (hs : 0 ≤ fI w 34 4 ∧ fI w 34 4 ≤ 36) (gr t : Int32) (ht : 0 ≤ t.toInt ∧ t.toInt < fI w 34 4) (K : ∀ (fr : Int64) (i : Int32), clI (rL w 38) (rL w 35) t.toInt.toNat (n64 fr) (fI w 34 4) → aw none (d + 1) 4 Q (56, [some (.ref 34), some (.int gr), some (.int t), some (.long fr), none, some (.int i)], []) w) : ∀ (m : Nat) (fr : Int64) (i : Int32), (fI w 34 4 - i.toInt).toNat < m → 0 ≤ i.toInt → i.toInt ≤ fI w 34 4 → clI (rL w 38) (rL w 35) t.toInt.toNat (n64 fr) i.toInt → aw none (d + 1) 4 Q (17, [some (.ref 34), some (.int gr), some (.int t), some (.long fr), none, some (.int i)], []) w := by
  intro m
  induction m with
  | zero => intro fr i p; omega
  | succ m ih =>
    intro fr i p1 p2 p3 F
    refine aw_step (f1 := (19, [some (.ref 34), some (.int gr), some (.int t), some (.long fr), none, some (.int i)], [(.int i)])) (w1 := w) rfl rfl ?_
    refine aw_step (f1 := (20, [some (.ref 34), some (.int gr), some (.int t), some (.long fr), none, some (.int i)], [(.ref 34), (.int i)])) (w1 := w) rfl rfl ?_
    refine s_gi J 23 rfl rfl rfl rfl rfl rfl fun x1 x1a x1b x1f => ?_
    have x1v : x1.toInt = fI w 34 4 := by rw [← fI_of x1f]
    refine s_ic 56 26 rfl rfl rfl (fun (h2 : x1.toInt ≤ i.toInt) => ?_) (fun (h2 : ¬ (x1.toInt ≤ i.toInt)) => ?_)
    · --
      exact K fr i (by rw [← show i.toInt = fI w 34 4 by omega]; exact F)
    · --
      refine aw_step (f1 := (27, [some (.ref 34), some (.int gr), some (.int t), some (.long fr), none, some (.int i)], [(.ref 34)])) (w1 := w) rfl rfl ?_
      refine s_gr 38 J 30 rfl rfl rfl rfl rfl rfl ?_
      refine aw_step (f1 := (31, [some (.ref 34), some (.int gr), some (.int t), some (.long fr), none, some (.int i)], [(.int t), (.ref 38)])) (w1 := w) rfl rfl ?_
      refine s_la J 32 rfl rfl rfl (by omega) (by omega) fun y3 y3a y3b y3f => ?_
      have ty : rL w 38 t.toInt.toNat = n64 y3 := rL_of y3f
      refine aw_step (f1 := (34, [some (.ref 34), some (.int gr), some (.int t), some (.long fr), none, some (.int i)], [(.int i), (.long y3)])) (w1 := w) rfl rfl ?_
      refine s_cs (z := 105) (as := [(.long y3), (.int i)]) (st1 := []) 37 rfl rfl rfl rfl rfl rfl (Nat.le_of_ble_eq_true rfl) (Nat.le_of_ble_eq_true rfl) (Nat.le_of_ble_eq_true rfl) (q_hasC y3 i (by omega) (by omega)) ?_
      rintro _ _ ⟨rfl, x4, rfl, x4t⟩
      refine ⟨rfl, ?_⟩
      show aw none _ 4 _ (37, [some (.ref 34), some (.int gr), some (.int t), some (.long fr), none, some (.int i)], [(.int x4)]) w
      have x4l := bt_le (n64 y3) i.toInt.toNat
      refine s_if 50 40 rfl rfl rfl (fun (h5 : x4.toInt = 0) => ?_) (fun (h5 : ¬ (x4.toInt = 0)) => ?_)
      · --
        refine aw_step (f1 := (53, [some (.ref 34), some (.int gr), some (.int t), some (.long fr), none, some (.int (i + Int32.ofInt 1))], [])) (w1 := w) rfl rfl ?_
        obtain ⟨x6, x6e⟩ : ∃ z, z = (i + Int32.ofInt 1) := ⟨_, rfl⟩
        have x6t : x6.toInt = i.toInt + (1) := by rw [x6e]; exact n_add (y := Int32.ofInt (1)) (by show _ ≤ _ + (1 : Int); omega) (by show _ + (1 : Int) ≤ _; omega)
        rw [← x6e]
        refine aw_step (f1 := (17, [some (.ref 34), some (.int gr), some (.int t), some (.long fr), none, some (.int x6)], [])) (w1 := w) rfl rfl ?_
        exact ih fr x6 (by omega) (by omega) (by omega) (by rw [show x6.toInt = i.toInt + 1 by omega]; exact F.no (by omega) (by rw [ty]; omega))
      · --
        refine aw_step (f1 := (41, [some (.ref 34), some (.int gr), some (.int t), some (.long fr), none, some (.int i)], [(.long fr)])) (w1 := w) rfl rfl ?_
        refine aw_step (f1 := (42, [some (.ref 34), some (.int gr), some (.int t), some (.long fr), none, some (.int i)], [(.ref 34), (.long fr)])) (w1 := w) rfl rfl ?_
        refine s_gr 35 J 45 rfl rfl rfl rfl rfl rfl ?_
        refine aw_step (f1 := (47, [some (.ref 34), some (.int gr), some (.int t), some (.long fr), none, some (.int i)], [(.int i), (.ref 35), (.long fr)])) (w1 := w) rfl rfl ?_
        refine s_la J 48 rfl rfl rfl (by omega) (by omega) fun y7 y7a y7b y7f => ?_
        have cy : n64 y7 = rL w 35 i.toInt.toNat := (rL_of y7f).symm
        refine s_l (pc1 := 49) (ls1 := [some (.ref 34), some (.int gr), some (.int t), some (.long fr), none, some (.int i)]) (st1 := []) rfl rfl fun y8 e9 => ?_
        have e9 : y8 = fr ||| y7 := e9
        refine aw_step (f1 := (50, [some (.ref 34), some (.int gr), some (.int t), some (.long y8), none, some (.int i)], [])) (w1 := w) rfl rfl ?_
        refine aw_step (f1 := (53, [some (.ref 34), some (.int gr), some (.int t), some (.long y8), none, some (.int (i + Int32.ofInt 1))], [])) (w1 := w) rfl rfl ?_
        obtain ⟨x10, x10e⟩ : ∃ z, z = (i + Int32.ofInt 1) := ⟨_, rfl⟩
        have x10t : x10.toInt = i.toInt + (1) := by rw [x10e]; exact n_add (y := Int32.ofInt (1)) (by show _ ≤ _ + (1 : Int); omega) (by show _ + (1 : Int) ≤ _; omega)
        rw [← x10e]
        refine aw_step (f1 := (17, [some (.ref 34), some (.int gr), some (.int t), some (.long y8), none, some (.int x10)], [])) (w1 := w) rfl rfl ?_
        exact ih y8 x10 (by omega) (by omega) (by omega) (by rw [show x10.toInt = i.toInt + 1 by omega]; exact F.ye (by omega) (by rw [ty]; omega) cy (by rw [e9, n64_or]))
theorem e_clO {d : Nat} {w00 : am_W} {V : Nat → Int} (hz : szV V ≤ 36) (hs0 : fI w00 34 4 = szV V) : ∀ (m : Nat) (w : am_W) (gr t : Int32) (o3 o4 o5 : Option Value), (szV V - t.toInt).toNat < m → 0 ≤ t.toInt → t.toInt ≤ szV V → ab_J ab_TT ab_sets ab_WR w00 w → only [37] w00 w → (∀ q : Nat, (q : Int) < t.toInt → clI (rL w00 38) (rL w00 35) q (rL w 37 q) (szV V)) → (∀ q : Nat, t.toInt ≤ (q : Int) → rL w 37 q = rL w00 37 q) → clG gr.toInt t.toInt (rL w 37) (rL w00 37) → aw none (d + 1) 4 (fun r w1 => ab_J ab_TT ab_sets ab_WR w00 w1 ∧ only [37] w00 w1 ∧ ∃ b : Int32, r = some (.int b) ∧ (∀ t : Nat, (t : Int) < szV V → clI (rL w00 38) (rL w00 35) t (rL w1 37 t) (szV V)) ∧ ((b.toInt = 1 ∧ ∃ q : Nat, (q : Int) < szV V ∧ rL w1 37 q ≠ rL w00 37 q) ∨ (b.toInt = 0 ∧ ∀ q : Nat, (q : Int) < szV V → rL w1 37 q = rL w00 37 q))) (4, [some (.ref 34), some (.int gr), some (.int t), o3, o4, o5], []) w := by
  intro m
  induction m with
  | zero => intro w gr t o3 o4 o5 p; omega
  | succ m ih =>
    intro w gr t o3 o4 o5 p1 p2 p3 J O F G H
    have hs : fI w 34 4 = szV V := by rw [O.fIe (by decide)]; exact hs0
    have r38 : rL w 38 = rL w00 38 := by funext j; exact O.rLe (by decide)
    have r35 : rL w 35 = rL w00 35 := by funext j; exact O.rLe (by decide)
    have gb : gr.toInt = 0 ∨ gr.toInt = 1 := by
      rcases H with h | h
      · exact Or.inr h.1
      · exact Or.inl h.1
    refine aw_step (f1 := (5, [some (.ref 34), some (.int gr), some (.int t), o3, o4, o5], [(.int t)])) (w1 := w) rfl rfl ?_
    refine aw_step (f1 := (6, [some (.ref 34), some (.int gr), some (.int t), o3, o4, o5], [(.ref 34), (.int t)])) (w1 := w) rfl rfl ?_
    refine s_gi J 9 rfl rfl rfl rfl rfl rfl fun x1 x1a x1b x1f => ?_
    have x1v : x1.toInt = fI w 34 4 := by rw [← fI_of x1f]
    refine s_ic 88 12 rfl rfl rfl (fun (h2 : x1.toInt ≤ t.toInt) => ?_) (fun (h2 : ¬ (x1.toInt ≤ t.toInt)) => ?_)
    · --
      refine aw_step (f1 := (89, [some (.ref 34), some (.int gr), some (.int t), o3, o4, o5], [(.int gr)])) (w1 := w) rfl rfl ?_
      refine aw_ret (v := some (.int gr)) rfl (am_retz (by omega)) ?_
      refine ⟨J, O, gr, rfl, fun q hq => F q (by omega), ?_⟩
      rcases H with ⟨h1, q, q1, q2⟩ | ⟨h1, h2⟩
      · exact Or.inl ⟨h1, q, by omega, q2⟩
      · exact Or.inr ⟨h1, fun q hq => h2 q (by omega)⟩
    · --
      refine s_l (pc1 := 13) (ls1 := [some (.ref 34), some (.int gr), some (.int t), o3, o4, o5]) (st1 := []) rfl rfl fun y3 e4 => ?_
      have e4t : y3.toInt = 0 := by rw [e4]; rfl
      refine aw_step (f1 := (14, [some (.ref 34), some (.int gr), some (.int t), some (.long y3), none, o5], [])) (w1 := w) rfl rfl ?_
      refine s_i (pc1 := 15) (ls1 := [some (.ref 34), some (.int gr), some (.int t), some (.long y3), none, o5]) (st1 := []) rfl rfl fun x5 e6 => ?_
      have e6t : x5.toInt = 0 := by rw [e6]; rfl
      refine aw_step (f1 := (17, [some (.ref 34), some (.int gr), some (.int t), some (.long y3), none, some (.int x5)], [])) (w1 := w) rfl rfl ?_
      refine e_clI J ⟨by omega, by omega⟩ gr t ⟨by omega, by omega⟩ (fun b9 i9 A9 => ?_) 37 y3 x5 (by omega) (by omega) (by omega) (fun g => ⟨fun u => by rw [n64_z.mp (by omega), bt_z] at u; omega, fun ⟨c, c1, _⟩ => by omega⟩)
      rw [hs] at A9
      refine aw_step (f1 := (57, [some (.ref 34), some (.int gr), some (.int t), some (.long b9), none, some (.int i9)], [(.int gr)])) (w1 := w) rfl rfl ?_
      refine aw_step (f1 := (58, [some (.ref 34), some (.int gr), some (.int t), some (.long b9), none, some (.int i9)], [(.long b9), (.int gr)])) (w1 := w) rfl rfl ?_
      refine aw_step (f1 := (59, [some (.ref 34), some (.int gr), some (.int t), some (.long b9), none, some (.int i9)], [(.ref 34), (.long b9), (.int gr)])) (w1 := w) rfl rfl ?_
      refine s_gr 37 J 62 rfl rfl rfl rfl rfl rfl ?_
      refine aw_step (f1 := (63, [some (.ref 34), some (.int gr), some (.int t), some (.long b9), none, some (.int i9)], [(.int t), (.ref 37), (.long b9), (.int gr)])) (w1 := w) rfl rfl ?_
      refine s_la J 64 rfl rfl rfl (by omega) (by omega) fun zy1 zy1a zy1b zy1f => ?_
      have cy9 : rL w 37 t.toInt.toNat = n64 zy1 := rL_of zy1f
      refine s_lc 72 68 65 rfl rfl rfl rfl rfl (fun (zh2 : b9.toInt = zy1.toInt) => ?_) (fun (zh2 : ¬ (b9.toInt = zy1.toInt)) => ?_)
      · --
        have df9 : b9.toInt = zy1.toInt := by omega
        refine s_i (pc1 := 73) (ls1 := [some (.ref 34), some (.int gr), some (.int t), some (.long b9), none, some (.int i9)]) (st1 := [(.int gr)]) rfl rfl fun zx3 ze4 => ?_
        have ze4t : zx3.toInt = 0 := by rw [ze4]; rfl
        have q_b9 := ab_any64 b9
        unfold ab_lo64 ab_hi64 at q_b9
        refine s_i (pc1 := 74) (ls1 := [some (.ref 34), some (.int gr), some (.int t), some (.long b9), none, some (.int i9)]) (st1 := []) rfl rfl fun zx5 ze6 => ?_
        have ze6 : zx5 = gr ||| zx3 := ze6
        refine aw_step (f1 := (75, [some (.ref 34), some (.int zx5), some (.int t), some (.long b9), none, some (.int i9)], [])) (w1 := w) rfl rfl ?_
        refine aw_step (f1 := (76, [some (.ref 34), some (.int zx5), some (.int t), some (.long b9), none, some (.int i9)], [(.ref 34)])) (w1 := w) rfl rfl ?_
        refine s_gr 37 J 79 rfl rfl rfl rfl rfl rfl ?_
        refine aw_step (f1 := (80, [some (.ref 34), some (.int zx5), some (.int t), some (.long b9), none, some (.int i9)], [(.int t), (.ref 37)])) (w1 := w) rfl rfl ?_
        refine aw_step (f1 := (81, [some (.ref 34), some (.int zx5), some (.int t), some (.long b9), none, some (.int i9)], [(.long b9), (.int t), (.ref 37)])) (w1 := w) rfl rfl ?_
        refine s_ls J 82 rfl rfl rfl rfl (by omega) (by omega) (by omega) (by omega) fun zw7 zJ8 zw7e => ?_
        have zw7f := rL_st J.1 (p := 37) (j := t.toInt.toNat) rfl (by omega) zw7e
        refine aw_step (f1 := (85, [some (.ref 34), some (.int zx5), some (.int (t + Int32.ofInt 1)), some (.long b9), none, some (.int i9)], [])) (w1 := zw7) rfl rfl ?_
        obtain ⟨zx9, zx9e⟩ : ∃ z, z = (t + Int32.ofInt 1) := ⟨_, rfl⟩
        have zx9t : zx9.toInt = t.toInt + (1) := by rw [zx9e]; exact n_add (y := Int32.ofInt (1)) (by show _ ≤ _ + (1 : Int); omega) (by show _ + (1 : Int) ≤ _; omega)
        rw [← zx9e]
        refine aw_step (f1 := (4, [some (.ref 34), some (.int zx5), some (.int zx9), some (.long b9), none, some (.int i9)], [])) (w1 := zw7) rfl rfl ?_
        refine ih zw7 zx5 zx9 _ _ _ (by omega) (by omega) (by omega) zJ8 (O.trans zw7f.1) (fun q hq => ?_) (fun q hq => ?_) ?_
        · by_cases e : q = t.toInt.toNat
          · subst e
            intro g
            rw [zw7f.2.1, ← r38, ← r35]
            exact A9 g
          · intro g
            rw [zw7f.2.2 q e]
            exact F q (by omega) g
        · rw [zw7f.2.2 q (by omega)]
          exact G q (by omega)
        · have og := i_or01 (x := gr) (y := zx3) gb (by omega)
          rw [← ze6] at og
          rcases H with ⟨h1, q, q1, q2⟩ | ⟨h1, h2⟩
          · refine Or.inl ⟨by omega, q, by omega, ?_⟩
            rw [zw7f.2.2 q (by omega)]
            exact q2
          · refine Or.inr ⟨by omega, fun q hq => ?_⟩
            by_cases e : q = t.toInt.toNat
            · rw [e, zw7f.2.1, ← G t.toInt.toNat (by omega), cy9, Int64.toInt_inj.mp df9]
            · rw [zw7f.2.2 q e]
              exact h2 q (by omega)
      · --
        have df9 : ¬ b9.toInt = zy1.toInt := by omega
        refine s_i (pc1 := 69) (ls1 := [some (.ref 34), some (.int gr), some (.int t), some (.long b9), none, some (.int i9)]) (st1 := [(.int gr)]) rfl rfl fun zx10 ze11 => ?_
        have ze11t : zx10.toInt = 1 := by rw [ze11]; rfl
        refine aw_step (f1 := (73, [some (.ref 34), some (.int gr), some (.int t), some (.long b9), none, some (.int i9)], [(.int zx10), (.int gr)])) (w1 := w) rfl rfl ?_
        have q_b9 := ab_any64 b9
        unfold ab_lo64 ab_hi64 at q_b9
        refine s_i (pc1 := 74) (ls1 := [some (.ref 34), some (.int gr), some (.int t), some (.long b9), none, some (.int i9)]) (st1 := []) rfl rfl fun zx12 ze13 => ?_
        have ze13 : zx12 = gr ||| zx10 := ze13
        refine aw_step (f1 := (75, [some (.ref 34), some (.int zx12), some (.int t), some (.long b9), none, some (.int i9)], [])) (w1 := w) rfl rfl ?_
        refine aw_step (f1 := (76, [some (.ref 34), some (.int zx12), some (.int t), some (.long b9), none, some (.int i9)], [(.ref 34)])) (w1 := w) rfl rfl ?_
        refine s_gr 37 J 79 rfl rfl rfl rfl rfl rfl ?_
        refine aw_step (f1 := (80, [some (.ref 34), some (.int zx12), some (.int t), some (.long b9), none, some (.int i9)], [(.int t), (.ref 37)])) (w1 := w) rfl rfl ?_
        refine aw_step (f1 := (81, [some (.ref 34), some (.int zx12), some (.int t), some (.long b9), none, some (.int i9)], [(.long b9), (.int t), (.ref 37)])) (w1 := w) rfl rfl ?_
        refine s_ls J 82 rfl rfl rfl rfl (by omega) (by omega) (by omega) (by omega) fun zw14 zJ15 zw14e => ?_
        have zw14f := rL_st J.1 (p := 37) (j := t.toInt.toNat) rfl (by omega) zw14e
        refine aw_step (f1 := (85, [some (.ref 34), some (.int zx12), some (.int (t + Int32.ofInt 1)), some (.long b9), none, some (.int i9)], [])) (w1 := zw14) rfl rfl ?_
        obtain ⟨zx16, zx16e⟩ : ∃ z, z = (t + Int32.ofInt 1) := ⟨_, rfl⟩
        have zx16t : zx16.toInt = t.toInt + (1) := by rw [zx16e]; exact n_add (y := Int32.ofInt (1)) (by show _ ≤ _ + (1 : Int); omega) (by show _ + (1 : Int) ≤ _; omega)
        rw [← zx16e]
        refine aw_step (f1 := (4, [some (.ref 34), some (.int zx12), some (.int zx16), some (.long b9), none, some (.int i9)], [])) (w1 := zw14) rfl rfl ?_
        refine ih zw14 zx12 zx16 _ _ _ (by omega) (by omega) (by omega) zJ15 (O.trans zw14f.1) (fun q hq => ?_) (fun q hq => ?_) ?_
        · by_cases e : q = t.toInt.toNat
          · subst e
            intro g
            rw [zw14f.2.1, ← r38, ← r35]
            exact A9 g
          · intro g
            rw [zw14f.2.2 q e]
            exact F q (by omega) g
        · rw [zw14f.2.2 q (by omega)]
          exact G q (by omega)
        · have og := i_or01 (x := gr) (y := zx10) gb (by omega)
          rw [← ze13] at og
          rcases H with ⟨h1, q, q1, q2⟩ | ⟨h1, h2⟩
          · refine Or.inl ⟨by omega, q, by omega, ?_⟩
            rw [zw14f.2.2 q (by omega)]
            exact q2
          · refine Or.inl ⟨by omega, t.toInt.toNat, by omega, ?_⟩
            rw [zw14f.2.1, ← G t.toInt.toNat (by omega), cy9]
            exact fun e => df9 (by rw [n64_inj e])
theorem e_close {d : Nat} {w : am_W} {V : Nat → Int} (hz : szV V ≤ 36) (hz0 : 0 ≤ szV V) (hs : fI w 34 4 = szV V) (I : ab_inv ab_TT ab_sets w) : aw none (d + 1) 4 (fun r w1 => ab_J ab_TT ab_sets ab_WR w w1 ∧ only [37] w w1 ∧ ∃ b : Int32, r = some (.int b) ∧ (∀ t : Nat, (t : Int) < szV V → clI (rL w 38) (rL w 35) t (rL w1 37 t) (szV V)) ∧ ((b.toInt = 1 ∧ ∃ q : Nat, (q : Int) < szV V ∧ rL w1 37 q ≠ rL w 37 q) ∨ (b.toInt = 0 ∧ ∀ q : Nat, (q : Int) < szV V → rL w1 37 q = rL w 37 q))) (0, am_entry 4 [.ref 34], []) w := by
  have J : ab_J ab_TT ab_sets ab_WR w w := ⟨I, ab_fr.rf⟩
  show aw none (d + 1) 4 _ (0, [some (.ref 34), none, none, none, none, none], []) w
  refine s_i (pc1 := 1) (ls1 := [some (.ref 34), none, none, none, none, none]) (st1 := []) rfl rfl fun x1 e2 => ?_
  have e2t : x1.toInt = 0 := by rw [e2]; rfl
  refine aw_step (f1 := (2, [some (.ref 34), some (.int x1), none, none, none, none], [])) (w1 := w) rfl rfl ?_
  refine s_i (pc1 := 3) (ls1 := [some (.ref 34), some (.int x1), none, none, none, none]) (st1 := []) rfl rfl fun x3 e4 => ?_
  have e4t : x3.toInt = 0 := by rw [e4]; rfl
  refine aw_step (f1 := (4, [some (.ref 34), some (.int x1), some (.int x3), none, none, none], [])) (w1 := w) rfl rfl ?_
  exact e_clO hz hs 37 w x1 x3 _ _ _ (by omega) (by omega) (by omega) J only.rf (fun q hq => by omega) (fun q _ => rfl) (Or.inr ⟨by omega, fun q hq => by omega⟩)
theorem cW_co {V : Nat → Int} {L M : Int} {k : Nat} {z x : Nat → Nat} {t g : Nat} (hz : ∀ q a : Nat, (q : Int) < szV V → (bt (z q) a = 1 ↔ WG V L M k a q)) (h : coP V M z x t) : bt (x t) g = 1 ↔ ldN V t ∧ CG V L M k g t := by
  rw [h g]
  constructor
  · rintro ⟨a, b | b⟩
    · exact ⟨a, Or.inl b⟩
    · refine ⟨a, Or.inr fun t' ht' => (hz t' g ?_).mp (b t' ht')⟩
      rcases ht' with q | q
      · rw [q]; exact a.1
      · exact q.1.1
  · rintro ⟨a, b | b⟩
    · exact ⟨a, Or.inl b⟩
    · refine ⟨a, Or.inr fun t' ht' => (hz t' g ?_).mpr (b t' ht')⟩
      rcases ht' with q | q
      · rw [q]; exact a.1
      · exact q.1.1
theorem cW_cl {V : Nat → Int} {L M : Int} {k : Nat} {x y : Nat → Nat} {t a g : Nat} (hx : ∀ c, bt (x t) c = 1 ↔ ldN V t ∧ CG V L M k c t) (hy : ∀ c : Nat, (c : Int) < szV V → gBt V L y c) (h : clI x y t a (szV V)) : bt a g = 1 ↔ WG V L M (k + 1) g t := by
  rw [h g]
  constructor
  · rintro ⟨c, c1, c2, c3⟩
    obtain ⟨t1, c4⟩ := (hx c).mp c2
    obtain ⟨c5, c6⟩ := (hy c c1 g).mp c3
    rcases c6 with q | q
    · rw [q]
      exact ⟨⟨c5, t1⟩, c, Or.inl rfl, c4⟩
    · exact ⟨⟨q.1, t1⟩, c, Or.inr (eV_c q c5), c4⟩
  · rintro ⟨⟨g1, t1⟩, c, c1, c2⟩
    have cl : ldN V c := by
      rcases c1 with q | q
      · rw [q]; exact g1
      · exact q.1
    refine ⟨c, cl.1, (hx c).mpr ⟨t1, c2⟩, (hy c cl.1 g).mpr ⟨cl, ?_⟩⟩
    rcases c1 with q | q
    · exact Or.inl q.symm
    · exact Or.inr (eV_c q g1)
theorem WG_df {V : Nat → Int} {L M : Int} {k : Nat} {z z' : Nat → Nat} {q : Nat} (hq : (q : Int) < szV V) (hz : ∀ q a : Nat, (q : Int) < szV V → (bt (z q) a = 1 ↔ WG V L M k a q)) (hz' : ∀ q a : Nat, (q : Int) < szV V → (bt (z' q) a = 1 ↔ WG V L M (k + 1) a q)) (h : z' q ≠ z q) : ∃ g t, ¬ WG V L M k g t ∧ WG V L M (k + 1) g t := by
  apply Classical.byContradiction
  intro n
  apply h
  refine bt_un (F := fun a => WG V L M k a q) (fun a => (hz' q a hq).trans ⟨fun u => ?_, WG_s⟩) (fun a => hz q a hq)
  apply Classical.byContradiction
  intro v
  exact n ⟨a, q, v, u⟩
noncomputable def huP (V : Nat → Int) (L M : Int) (g t : Nat) (r f : Int) : Prop := (r = -6 ∧ f = -6 ∧ ∀ m, ¬ WG V L M m g t) ∨ (g = t ∧ r = 0 ∧ f = -6) ∨ ∃ n : Nat, 0 < n ∧ nG V L M n g t ∧ r = n ∧ fsG V L M (n - 1) g t f
theorem e_huL {d : Nat} {w00 w0 : am_W} {V : Nat → Int} {L M : Int} (hz : szV V ≤ 36) (hz0 : 0 ≤ szV V) (g t : Int32) (hgc : 0 ≤ g.toInt ∧ g.toInt < szV V) (htc : 0 ≤ t.toInt ∧ t.toInt < szV V) (hgl : ldN V g.toInt.toNat) (hg0 : ∀ q : Nat, (q : Int) < szV V → gBt V L (rL w0 35) q) (hy0 : ∀ q : Nat, (q : Int) < szV V → gBt V M (rL w0 36) q) : ∀ (m : Nat) (w : am_W) (gr n : Int32), (1300 - n.toInt).toNat < m → 1 ≤ n.toInt → n.toInt ≤ 1297 → ab_J ab_TT ab_sets ab_WR w00 w → only [34, 37, 38] w0 w → fI w 34 4 = szV V → fI w 34 5 = -6 → fI w 34 6 = -6 → (∀ q a : Nat, (q : Int) < szV V → (bt (rL w 37 q) a = 1 ↔ WG V L M (n.toInt.toNat - 1) a q)) → (∀ k, k < n.toInt.toNat → ¬ WG V L M k g.toInt.toNat t.toInt.toNat) → ((gr.toInt = 1 ∧ ∀ j, j < n.toInt.toNat - 1 → ∃ a b, ¬ WG V L M j a b ∧ WG V L M (j + 1) a b) ∨ (gr.toInt = 0 ∧ ∀ m, ¬ WG V L M m g.toInt.toNat t.toInt.toNat)) → aw none (d + 2) 2 (fun r w1 => r = none ∧ ab_J ab_TT ab_sets ab_WR w00 w1 ∧ huP V L M g.toInt.toNat t.toInt.toNat (fI w1 34 5) (fI w1 34 6)) (28, [some (.ref 34), some (.int g), some (.int t), some (.int gr), some (.int n)], []) w := by
  intro m
  induction m with
  | zero => intro w gr n p; omega
  | succ m ih =>
    intro w gr n p1 p2 p3 J O hs f5 f6 C N H
    have hg : ∀ q : Nat, (q : Int) < szV V → gBt V L (rL w 35) q := fun q h j => by rw [O.rLe (by decide)]; exact hg0 q h j
    have hy : ∀ q : Nat, (q : Int) < szV V → gBt V M (rL w 36) q := fun q h j => by rw [O.rLe (by decide)]; exact hy0 q h j
    have gb0 : gr.toInt = 1 ∨ gr.toInt = 0 := by
      rcases H with h | h
      · exact Or.inl h.1
      · exact Or.inr h.1
    refine aw_step (f1 := (30, [some (.ref 34), some (.int g), some (.int t), some (.int gr), some (.int n)], [(.int n)])) (w1 := w) rfl rfl ?_
    refine s_i (pc1 := 33) (ls1 := [some (.ref 34), some (.int g), some (.int t), some (.int gr), some (.int n)]) (st1 := [(.int n)]) rfl rfl fun x1 e2 => ?_
    have e2t : x1.toInt = 1296 := by rw [e2]; rfl
    refine s_ic 95 36 rfl rfl rfl (fun (h3 : x1.toInt < n.toInt) => ?_) (fun (h3 : ¬ (x1.toInt < n.toInt)) => ?_)
    · --
      refine aw_ret (v := none) rfl rfl ?_
      refine ⟨rfl, J, ?_⟩
      rw [f5, f6]
      refine Or.inl ⟨rfl, rfl, ?_⟩
      rcases H with h | h
      · exfalso
        refine WG_no (L := L) (M := M) hz (c := g.toInt.toNat) hgl (fun j hj => h.2 j (by omega))
      · exact h.2
    · --
      refine aw_step (f1 := (37, [some (.ref 34), some (.int g), some (.int t), some (.int gr), some (.int n)], [(.int gr)])) (w1 := w) rfl rfl ?_
      refine s_if 95 40 rfl rfl rfl (fun (h4 : gr.toInt = 0) => ?_) (fun (h4 : ¬ (gr.toInt = 0)) => ?_)
      · --
        refine aw_ret (v := none) rfl rfl ?_
        refine ⟨rfl, J, ?_⟩
        rw [f5, f6]
        refine Or.inl ⟨rfl, rfl, ?_⟩
        rcases H with h | h
        · exfalso
          refine WG_no (L := L) (M := M) hz (c := g.toInt.toNat) hgl (fun j hj => h.2 j (by omega))
        · exact h.2
      · --
        refine aw_step (f1 := (41, [some (.ref 34), some (.int g), some (.int t), some (.int gr), some (.int n)], [(.ref 34)])) (w1 := w) rfl rfl ?_
        refine s_cv (z := 3) (p := 34) (as := []) (st1 := []) J 44 rfl rfl rfl rfl rfl rfl rfl rfl (Nat.le_of_ble_eq_true rfl) (Nat.le_of_ble_eq_true rfl) (e_corner (M := M) hz hz0 hs hy J.1) ?_
        rintro _ w5 ⟨rfl, J6c, w5o, w5p⟩
        have J6 := J.trans J6c
        refine ⟨am_len2 J J6c, ?_⟩
        show aw none _ 2 _ (44, [some (.ref 34), some (.int g), some (.int t), some (.int gr), some (.int n)], []) w5
        have hs2 : fI w5 34 4 = szV V := by rw [w5o.fIe (by decide)]; exact hs
        refine aw_step (f1 := (45, [some (.ref 34), some (.int g), some (.int t), some (.int gr), some (.int n)], [(.ref 34)])) (w1 := w5) rfl rfl ?_
        refine s_cv (z := 4) (p := 34) (as := []) (st1 := []) J6 48 rfl rfl rfl rfl rfl rfl rfl rfl (Nat.le_of_ble_eq_true rfl) (Nat.le_of_ble_eq_true rfl) (e_close hz hz0 hs2 J6.1) ?_
        rintro _ w8 ⟨J9c, w8o, x7, rfl, w8p, x7t⟩
        have J9 := J6.trans J9c
        refine ⟨am_len2 J6 J9c, ?_⟩
        show aw none _ 2 _ (48, [some (.ref 34), some (.int g), some (.int t), some (.int gr), some (.int n)], [(.int x7)]) w8
        have zc : ∀ q a : Nat, (q : Int) < szV V → (bt (rL w5 37 q) a = 1 ↔ WG V L M (n.toInt.toNat - 1) a q) := fun q a h => by rw [w5o.rLe (by decide)]; exact C q a h
        have xc : ∀ q a : Nat, (q : Int) < szV V → (bt (rL w5 38 q) a = 1 ↔ ldN V q ∧ CG V L M (n.toInt.toNat - 1) a q) := fun q a h => cW_co C (w5p q h)
        have yc : ∀ q : Nat, (q : Int) < szV V → gBt V L (rL w5 35) q := fun q h j => by rw [w5o.rLe (by decide)]; exact hg q h j
        have C2 : ∀ q a : Nat, (q : Int) < szV V → (bt (rL w8 37 q) a = 1 ↔ WG V L M (n.toInt.toNat - 1 + 1) a q) := fun q a h => cW_cl (fun b => xc q b h) yc (w8p q h)
        refine aw_step (f1 := (49, [some (.ref 34), some (.int g), some (.int t), some (.int x7), some (.int n)], [])) (w1 := w8) rfl rfl ?_
        refine aw_step (f1 := (50, [some (.ref 34), some (.int g), some (.int t), some (.int x7), some (.int n)], [(.ref 34)])) (w1 := w8) rfl rfl ?_
        refine s_gr 37 J9 53 rfl rfl rfl rfl rfl rfl ?_
        refine aw_step (f1 := (54, [some (.ref 34), some (.int g), some (.int t), some (.int x7), some (.int n)], [(.int t), (.ref 37)])) (w1 := w8) rfl rfl ?_
        refine s_la J9 55 rfl rfl rfl (by omega) (by omega) fun y10 y10a y10b y10f => ?_
        have ly : rL w8 37 t.toInt.toNat = n64 y10 := rL_of y10f
        refine aw_step (f1 := (56, [some (.ref 34), some (.int g), some (.int t), some (.int x7), some (.int n)], [(.int g), (.long y10)])) (w1 := w8) rfl rfl ?_
        refine s_cs (z := 105) (as := [(.long y10), (.int g)]) (st1 := []) 59 rfl rfl rfl rfl rfl rfl (Nat.le_of_ble_eq_true rfl) (Nat.le_of_ble_eq_true rfl) (Nat.le_of_ble_eq_true rfl) (q_hasC y10 g (by omega) (by omega)) ?_
        rintro _ _ ⟨rfl, x11, rfl, x11t⟩
        refine ⟨rfl, ?_⟩
        show aw none _ 2 _ (59, [some (.ref 34), some (.int g), some (.int t), some (.int x7), some (.int n)], [(.int x11)]) w8
        have x11l := bt_le (n64 y10) g.toInt.toNat
        refine s_if 89 62 rfl rfl rfl (fun (h12 : x11.toInt = 0) => ?_) (fun (h12 : ¬ (x11.toInt = 0)) => ?_)
        · --
          refine aw_step (f1 := (92, [some (.ref 34), some (.int g), some (.int t), some (.int x7), some (.int (n + Int32.ofInt 1))], [])) (w1 := w8) rfl rfl ?_
          obtain ⟨x13, x13e⟩ : ∃ z, z = (n + Int32.ofInt 1) := ⟨_, rfl⟩
          have x13t : x13.toInt = n.toInt + (1) := by rw [x13e]; exact n_add (y := Int32.ofInt (1)) (by show _ ≤ _ + (1 : Int); omega) (by show _ + (1 : Int) ≤ _; omega)
          rw [← x13e]
          refine aw_step (f1 := (28, [some (.ref 34), some (.int g), some (.int t), some (.int x7), some (.int x13)], [])) (w1 := w8) rfl rfl ?_
          have nw : ¬ WG V L M (n.toInt.toNat - 1 + 1) g.toInt.toNat t.toInt.toNat := fun z => by
            have := (C2 t.toInt.toNat g.toInt.toNat (by omega)).mpr z
            rw [ly] at this
            omega
          refine ih w8 x7 x13 (by omega) (by omega) (by omega) J9 ((O.trans (oc w5o (by decide))).trans (oc w8o (by decide))) (by rw [w8o.fIe (by decide)]; exact hs2) (by rw [w8o.fIe (by decide), w5o.fIe (by decide)]; exact f5) (by rw [w8o.fIe (by decide), w5o.fIe (by decide)]; exact f6) (fun q a h => by rw [show x13.toInt.toNat - 1 = n.toInt.toNat - 1 + 1 by omega]; exact C2 q a h) (fun k hk => ?_) ?_
          · by_cases e : k = n.toInt.toNat - 1 + 1
            · rw [e]; exact nw
            · exact N k (by omega)
          · rcases x7t with ⟨q1, q, q2, q3⟩ | ⟨q1, q2⟩
            · refine Or.inl ⟨q1, fun j hj => ?_⟩
              by_cases e : j = n.toInt.toNat - 1
              · rw [e]
                refine WG_df q2 C C2 ?_
                rw [← w5o.rLe (p := 37) (w1 := w5) (by decide)]
                exact q3
              · rcases H with h | h
                · exact h.2 j (by omega)
                · omega
            · refine Or.inr ⟨q1, fun m hm => ?_⟩
              refine N (n.toInt.toNat - 1) (by omega) (WG_fix (fun a b u => ?_) hm)
              have b1 := (WG_ld u).2.1
              refine (C b a b1).mp ?_
              rw [← w5o.rLe (p := 37) (w1 := w5) (by decide), ← q2 b b1]
              exact (C2 b a b1).mpr u
        · --
          have wn : WG V L M (n.toInt.toNat - 1 + 1) g.toInt.toNat t.toInt.toNat := (C2 t.toInt.toNat g.toInt.toNat (by omega)).mp (by rw [ly]; omega)
          refine aw_step (f1 := (63, [some (.ref 34), some (.int g), some (.int t), some (.int x7), some (.int n)], [(.ref 34)])) (w1 := w8) rfl rfl ?_
          refine aw_step (f1 := (65, [some (.ref 34), some (.int g), some (.int t), some (.int x7), some (.int n)], [(.int n), (.ref 34)])) (w1 := w8) rfl rfl ?_
          refine s_pi J9 68 rfl rfl rfl rfl rfl rfl rfl (by omega) (by omega) fun w14 J15 w14e => ?_
          have w14f := fv_st J9.1 (p := 34) (kf := 5) rfl (by decide) w14e
          refine aw_step (f1 := (69, [some (.ref 34), some (.int g), some (.int t), some (.int x7), some (.int n)], [(.ref 34)])) (w1 := w14) rfl rfl ?_
          refine aw_step (f1 := (70, [some (.ref 34), some (.int g), some (.int t), some (.int x7), some (.int n)], [(.ref 34), (.ref 34)])) (w1 := w14) rfl rfl ?_
          refine s_gr 35 J15 73 rfl rfl rfl rfl rfl rfl ?_
          refine aw_step (f1 := (74, [some (.ref 34), some (.int g), some (.int t), some (.int x7), some (.int n)], [(.int g), (.ref 35), (.ref 34)])) (w1 := w14) rfl rfl ?_
          refine s_la J15 75 rfl rfl rfl (by omega) (by omega) fun y16 y16a y16b y16f => ?_
          --
          refine aw_step (f1 := (76, [some (.ref 34), some (.int g), some (.int t), some (.int x7), some (.int n)], [(.ref 34), (.long y16), (.ref 34)])) (w1 := w14) rfl rfl ?_
          refine s_gr 38 J15 79 rfl rfl rfl rfl rfl rfl ?_
          refine aw_step (f1 := (80, [some (.ref 34), some (.int g), some (.int t), some (.int x7), some (.int n)], [(.int t), (.ref 38), (.long y16), (.ref 34)])) (w1 := w14) rfl rfl ?_
          refine s_la J15 81 rfl rfl rfl (by omega) (by omega) fun y17 y17a y17b y17f => ?_
          --
          refine s_l (pc1 := 82) (ls1 := [some (.ref 34), some (.int g), some (.int t), some (.int x7), some (.int n)]) (st1 := [(.ref 34)]) rfl rfl fun y18 e19 => ?_
          have e19 : y18 = y16 &&& y17 := e19
          have ga : n64 y16 = rL w5 35 g.toInt.toNat := by rw [← rL_of y16f, w14f.1.rLe (by decide), w8o.rLe (by decide)]
          have gb : n64 y17 = rL w5 38 t.toInt.toNat := by rw [← rL_of y17f, w14f.1.rLe (by decide), w8o.rLe (by decide)]
          have gc : ∀ j, bt (n64 y18) j = 1 ↔ (j = g.toInt.toNat ∨ eV V L g.toInt.toNat j) ∧ CG V L M (n.toInt.toNat - 1) j t.toInt.toNat := fun j => by
            have u1 := yc g.toInt.toNat (by omega) j
            have u2 := xc t.toInt.toNat j (by omega)
            rw [← ga] at u1
            rw [← gb] at u2
            have l1 := bt_le (n64 y16) j
            have l2 := bt_le (n64 y17) j
            rw [e19, n64_and, bt_and]
            constructor
            · intro z
              exact ⟨(u1.mp (by omega)).2, (u2.mp (by omega)).2⟩
            · intro z
              have v1 := u1.mpr ⟨(WG_ld wn).1, z.1⟩
              have v2 := u2.mpr ⟨(WG_ld wn).2, z.2⟩
              omega
          refine s_cs (z := 106) (as := [(.long y18)]) (st1 := [(.ref 34)]) 85 rfl rfl rfl rfl rfl rfl (Nat.le_of_ble_eq_true rfl) (Nat.le_of_ble_eq_true rfl) (Nat.le_of_ble_eq_true rfl) (q_leastOf y18) ?_
          rintro _ _ ⟨rfl, x20, rfl, x20t⟩
          refine ⟨rfl, ?_⟩
          show aw none _ 2 _ (85, [some (.ref 34), some (.int g), some (.int t), some (.int x7), some (.int n)], [(.int x20), (.ref 34)]) w14
          refine s_pi J15 88 rfl rfl rfl rfl rfl rfl rfl (by omega) (by omega) fun w21 J22 w21e => ?_
          have w21f := fv_st J15.1 (p := 34) (kf := 6) rfl (by decide) w21e
          refine aw_ret (v := none) rfl rfl ?_
          refine ⟨rfl, J22, ?_⟩
          have e5 : fI w21 34 5 = n.toInt := by rw [fI_eq (w21f.2.2 5 (by decide)), fI_of w14f.2.1]
          have e6 : fI w21 34 6 = x20.toInt := fI_of w21f.2.1
          rw [e5, e6]
          refine Or.inr (Or.inr ⟨n.toInt.toNat, by omega, ⟨by rw [show n.toInt.toNat = n.toInt.toNat - 1 + 1 by omega]; exact wn, fun k hk => N k hk⟩, by omega, ?_⟩)
          rcases x20t with ⟨q1, q2, q3, q4⟩ | ⟨q1, q2⟩
          · refine ⟨x20.toInt.toNat, by omega, (gc _).mp q3, fun y hy u => ?_⟩
            have := q4 y (by omega)
            have := (gc y).mpr u
            omega
          · exfalso
            obtain ⟨-, x, x1, x2⟩ := wn
            have x3 : x < 36 := by
              rcases x1 with u | u
              · omega
              · have := u.1.1; omega
            have := (gc x).mpr ⟨x1, x2⟩
            have := q2 x (by omega)
            omega
theorem e_hunt {d : Nat} {w : am_W} {V : Nat → Int} {L M : Int} (hz : szV V ≤ 36) (hz0 : 0 ≤ szV V) (g t : Int32) (hgc : 0 ≤ g.toInt ∧ g.toInt < szV V) (htc : 0 ≤ t.toInt ∧ t.toInt < szV V) (hgl : ldN V g.toInt.toNat) (hs : fI w 34 4 = szV V) (hg : ∀ q : Nat, (q : Int) < szV V → gBt V L (rL w 35) q) (hy : ∀ q : Nat, (q : Int) < szV V → gBt V M (rL w 36) q) (hc : ∀ q : Nat, (q : Int) < szV V → gBc V (rL w 37) q) (I : ab_inv ab_TT ab_sets w) : aw none (d + 2) 2 (fun r w1 => r = none ∧ ab_J ab_TT ab_sets ab_WR w w1 ∧ huP V L M g.toInt.toNat t.toInt.toNat (fI w1 34 5) (fI w1 34 6)) (0, am_entry 2 [.ref 34, .int g, .int t], []) w := by
  have J : ab_J ab_TT ab_sets ab_WR w w := ⟨I, ab_fr.rf⟩
  show aw none (d + 2) 2 _ (0, [some (.ref 34), some (.int g), some (.int t), none, none], []) w
  refine aw_step (f1 := (1, [some (.ref 34), some (.int g), some (.int t), none, none], [(.ref 34)])) (w1 := w) rfl rfl ?_
  refine s_i (pc1 := 3) (ls1 := [some (.ref 34), some (.int g), some (.int t), none, none]) (st1 := [(.ref 34)]) rfl rfl fun x1 e2 => ?_
  have e2t : x1.toInt = -6 := by rw [e2]; rfl
  refine s_pi J 6 rfl rfl rfl rfl rfl rfl rfl (by omega) (by omega) fun w3 J4 w3e => ?_
  have w3f := fv_st J.1 (p := 34) (kf := 5) rfl (by decide) w3e
  refine aw_step (f1 := (7, [some (.ref 34), some (.int g), some (.int t), none, none], [(.ref 34)])) (w1 := w3) rfl rfl ?_
  refine s_i (pc1 := 9) (ls1 := [some (.ref 34), some (.int g), some (.int t), none, none]) (st1 := [(.ref 34)]) rfl rfl fun x5 e6 => ?_
  have e6t : x5.toInt = -6 := by rw [e6]; rfl
  refine s_pi J4 12 rfl rfl rfl rfl rfl rfl rfl (by omega) (by omega) fun w7 J8 w7e => ?_
  have w7f := fv_st J4.1 (p := 34) (kf := 6) rfl (by decide) w7e
  refine aw_step (f1 := (13, [some (.ref 34), some (.int g), some (.int t), none, none], [(.int g)])) (w1 := w7) rfl rfl ?_
  refine aw_step (f1 := (14, [some (.ref 34), some (.int g), some (.int t), none, none], [(.int t), (.int g)])) (w1 := w7) rfl rfl ?_
  refine s_ic 23 17 rfl rfl rfl (fun (h9 : ¬ g.toInt = t.toInt) => ?_) (fun (h9 : ¬ (¬ g.toInt = t.toInt)) => ?_)
  · --
    refine s_i (pc1 := 24) (ls1 := [some (.ref 34), some (.int g), some (.int t), none, none]) (st1 := []) rfl rfl fun x10 e11 => ?_
    have e11t : x10.toInt = 1 := by rw [e11]; rfl
    refine aw_step (f1 := (25, [some (.ref 34), some (.int g), some (.int t), some (.int x10), none], [])) (w1 := w7) rfl rfl ?_
    refine s_i (pc1 := 26) (ls1 := [some (.ref 34), some (.int g), some (.int t), some (.int x10), none]) (st1 := []) rfl rfl fun x12 e13 => ?_
    have e13t : x12.toInt = 1 := by rw [e13]; rfl
    refine aw_step (f1 := (28, [some (.ref 34), some (.int g), some (.int t), some (.int x10), some (.int x12)], [])) (w1 := w7) rfl rfl ?_
    refine e_huL (w0 := w7) hz hz0 g t hgc htc hgl (fun q h j => by rw [w7f.1.rLe (by decide), w3f.1.rLe (by decide)]; exact hg q h j) (fun q h j => by rw [w7f.1.rLe (by decide), w3f.1.rLe (by decide)]; exact hy q h j) 1301 w7 x10 x12 (by omega) (by omega) (by omega) J8 only.rf ?_ ?_ ?_ (fun q a h => ?_) (fun k hk => ?_) (Or.inl ⟨by omega, fun j hj => by omega⟩)
    · rw [fI_eq (w7f.2.2 4 (by decide)), fI_eq (w3f.2.2 4 (by decide))]; exact hs
    · rw [fI_eq (w7f.2.2 5 (by decide)), fI_of w3f.2.1]; omega
    · rw [fI_of w7f.2.1]; omega
    · rw [w7f.1.rLe (by decide), w3f.1.rLe (by decide), show x12.toInt.toNat - 1 = 0 by omega]
      exact (hc q h a).trans ⟨fun z => ⟨z.2, z.1⟩, fun z => ⟨z.2, z.1⟩⟩
    · rw [show k = 0 by omega]
      rintro ⟨z, -⟩
      omega
  · --
    refine aw_step (f1 := (18, [some (.ref 34), some (.int g), some (.int t), none, none], [(.ref 34)])) (w1 := w7) rfl rfl ?_
    refine s_i (pc1 := 19) (ls1 := [some (.ref 34), some (.int g), some (.int t), none, none]) (st1 := [(.ref 34)]) rfl rfl fun x14 e15 => ?_
    have e15t : x14.toInt = 0 := by rw [e15]; rfl
    refine s_pi J8 22 rfl rfl rfl rfl rfl rfl rfl (by omega) (by omega) fun w16 J17 w16e => ?_
    have w16f := fv_st J8.1 (p := 34) (kf := 5) rfl (by decide) w16e
    refine aw_ret (v := none) rfl rfl ?_
    refine ⟨rfl, J17, Or.inr (Or.inl ⟨by omega, ?_, ?_⟩)⟩
    · rw [fI_of w16f.2.1]; omega
    · rw [fI_eq (w16f.2.2 6 (by decide)), fI_of w7f.2.1]; omega
theorem e_guard {d : Nat} {w : am_W} {V : Nat → Int} (R : RCs w 3 V) (b c th wh wa : Int32) (I : ab_inv ab_TT ab_sets w) : aw none (d + 4) 90 (fun r w1 => ab_J ab_TT ab_sets ab_WR w w1 ∧ ∃ z : Int32, r = some (.int z) ∧ grdP V b.toInt c.toInt th.toInt wh.toInt wa.toInt z.toInt) (0, am_entry 90 [.ref 0, .int b, .int c, .int th, .int wh, .int wa], []) w := by
  have J : ab_J ab_TT ab_sets ab_WR w w := ⟨I, ab_fr.rf⟩
  have szc := szC_in I
  have hsz := R.sz
  show aw none (d + 4) 90 _ (0, [some (.ref 0), some (.int b), some (.int c), some (.int th), some (.int wh), some (.int wa)], []) w
  refine aw_step (f1 := (1, [some (.ref 0), some (.int b), some (.int c), some (.int th), some (.int wh), some (.int wa)], [(.int b)])) (w1 := w) rfl rfl ?_
  refine s_cs (z := 103) (as := [(.int b)]) (st1 := []) 4 rfl rfl rfl rfl rfl rfl (Nat.le_of_ble_eq_true rfl) (Nat.le_of_ble_eq_true rfl) (Nat.le_of_ble_eq_true rfl) (q_isBoots b) ?_
  rintro _ _ ⟨rfl, x1, rfl, x1t⟩
  refine ⟨rfl, ?_⟩
  show aw none _ 90 _ (4, [some (.ref 0), some (.int b), some (.int c), some (.int th), some (.int wh), some (.int wa)], [(.int x1)]) w
  refine s_if 37 7 rfl rfl rfl (fun (h2 : x1.toInt = 0) => ?_) (fun (h2 : ¬ (x1.toInt = 0)) => ?_)
  · --
    refine s_i (pc1 := 38) (ls1 := [some (.ref 0), some (.int b), some (.int c), some (.int th), some (.int wh), some (.int wa)]) (st1 := []) rfl rfl fun x3 e4 => ?_
    have e4t : x3.toInt = -1 := by rw [e4]; rfl
    refine aw_ret (v := some (.int x3)) rfl rfl ?_
    first
      | exact ⟨J, x3, rfl, Or.inl ⟨by omega, by omega⟩⟩
      | exact ⟨J, x3, rfl, Or.inr (Or.inl ⟨by omega, by omega, by omega⟩)⟩
  · --
    refine aw_step (f1 := (8, [some (.ref 0), some (.int b), some (.int c), some (.int th), some (.int wh), some (.int wa)], [(.ref 0)])) (w1 := w) rfl rfl ?_
    refine s_gr 3 J 11 rfl rfl rfl rfl rfl rfl ?_
    refine aw_step (f1 := (12, [some (.ref 0), some (.int b), some (.int c), some (.int th), some (.int wh), some (.int wa)], [(.int c), (.ref 3)])) (w1 := w) rfl rfl ?_
    refine s_cv (z := 40) (p := 3) (as := [(.int c)]) (st1 := []) J 15 rfl rfl rfl rfl rfl rfl rfl rfl (Nat.le_of_ble_eq_true rfl) (Nat.le_of_ble_eq_true rfl) (q_isDry R c J.1) ?_
    rintro _ _ ⟨rfl, x5, rfl, x5t⟩
    refine ⟨rfl, ?_⟩
    show aw none _ 90 _ (15, [some (.ref 0), some (.int b), some (.int c), some (.int th), some (.int wh), some (.int wa)], [(.int x5)]) w
    refine s_if 37 18 rfl rfl rfl (fun (h6 : x5.toInt = 0) => ?_) (fun (h6 : ¬ (x5.toInt = 0)) => ?_)
    · --
      refine s_i (pc1 := 38) (ls1 := [some (.ref 0), some (.int b), some (.int c), some (.int th), some (.int wh), some (.int wa)]) (st1 := []) rfl rfl fun x7 e8 => ?_
      have e8t : x7.toInt = -1 := by rw [e8]; rfl
      refine aw_ret (v := some (.int x7)) rfl rfl ?_
      first
        | exact ⟨J, x7, rfl, Or.inl ⟨by omega, by omega⟩⟩
        | exact ⟨J, x7, rfl, Or.inr (Or.inl ⟨by omega, by omega, by omega⟩)⟩
    · --
      refine aw_step (f1 := (19, [some (.ref 0), some (.int b), some (.int c), some (.int th), some (.int wh), some (.int wa)], [(.int th)])) (w1 := w) rfl rfl ?_
      refine s_cs (z := 103) (as := [(.int th)]) (st1 := []) 22 rfl rfl rfl rfl rfl rfl (Nat.le_of_ble_eq_true rfl) (Nat.le_of_ble_eq_true rfl) (Nat.le_of_ble_eq_true rfl) (q_isBoots th) ?_
      rintro _ _ ⟨rfl, x9, rfl, x9t⟩
      refine ⟨rfl, ?_⟩
      show aw none _ 90 _ (22, [some (.ref 0), some (.int b), some (.int c), some (.int th), some (.int wh), some (.int wa)], [(.int x9)]) w
      refine s_if 37 25 rfl rfl rfl (fun (h10 : x9.toInt = 0) => ?_) (fun (h10 : ¬ (x9.toInt = 0)) => ?_)
      · --
        refine s_i (pc1 := 38) (ls1 := [some (.ref 0), some (.int b), some (.int c), some (.int th), some (.int wh), some (.int wa)]) (st1 := []) rfl rfl fun x11 e12 => ?_
        have e12t : x11.toInt = -1 := by rw [e12]; rfl
        refine aw_ret (v := some (.int x11)) rfl rfl ?_
        first
          | exact ⟨J, x11, rfl, Or.inl ⟨by omega, by omega⟩⟩
          | exact ⟨J, x11, rfl, Or.inr (Or.inl ⟨by omega, by omega, by omega⟩)⟩
      · --
        refine aw_step (f1 := (26, [some (.ref 0), some (.int b), some (.int c), some (.int th), some (.int wh), some (.int wa)], [(.ref 0)])) (w1 := w) rfl rfl ?_
        refine s_gr 3 J 29 rfl rfl rfl rfl rfl rfl ?_
        refine aw_step (f1 := (31, [some (.ref 0), some (.int b), some (.int c), some (.int th), some (.int wh), some (.int wa)], [(.int wh), (.ref 3)])) (w1 := w) rfl rfl ?_
        refine s_cv (z := 40) (p := 3) (as := [(.int wh)]) (st1 := []) J 34 rfl rfl rfl rfl rfl rfl rfl rfl (Nat.le_of_ble_eq_true rfl) (Nat.le_of_ble_eq_true rfl) (q_isDry R wh J.1) ?_
        rintro _ _ ⟨rfl, x13, rfl, x13t⟩
        refine ⟨rfl, ?_⟩
        show aw none _ 90 _ (34, [some (.ref 0), some (.int b), some (.int c), some (.int th), some (.int wh), some (.int wa)], [(.int x13)]) w
        refine s_if 39 37 rfl rfl rfl (fun (h14 : ¬ x13.toInt = 0) => ?_) (fun (h14 : ¬ (¬ x13.toInt = 0)) => ?_)
        · --
          refine aw_step (f1 := (41, [some (.ref 0), some (.int b), some (.int c), some (.int th), some (.int wh), some (.int wa)], [(.int wa)])) (w1 := w) rfl rfl ?_
          refine s_i (pc1 := 42) (ls1 := [some (.ref 0), some (.int b), some (.int c), some (.int th), some (.int wh), some (.int wa)]) (st1 := [(.int wa)]) rfl rfl fun x15 e16 => ?_
          have e16t : x15.toInt = 0 := by rw [e16]; rfl
          refine s_i (pc1 := 43) (ls1 := [some (.ref 0), some (.int b), some (.int c), some (.int th), some (.int wh), some (.int wa)]) (st1 := [(.int x15), (.int wa)]) rfl rfl fun x17 e18 => ?_
          have e18t : x17.toInt = 1 := by rw [e18]; rfl
          refine s_cs (z := 102) (as := [(.int wa), (.int x15), (.int x17)]) (st1 := []) 46 rfl rfl rfl rfl rfl rfl (Nat.le_of_ble_eq_true rfl) (Nat.le_of_ble_eq_true rfl) (Nat.le_of_ble_eq_true rfl) (q_within wa x15 x17) ?_
          rintro _ _ ⟨rfl, x19, rfl, x19t⟩
          refine ⟨rfl, ?_⟩
          show aw none _ 90 _ (46, [some (.ref 0), some (.int b), some (.int c), some (.int th), some (.int wh), some (.int wa)], [(.int x19)]) w
          refine s_if 52 49 rfl rfl rfl (fun (h20 : ¬ x19.toInt = 0) => ?_) (fun (h20 : ¬ (¬ x19.toInt = 0)) => ?_)
          · --
            refine aw_step (f1 := (53, [some (.ref 0), some (.int b), some (.int c), some (.int th), some (.int wh), some (.int wa)], [(.ref 0)])) (w1 := w) rfl rfl ?_
            refine s_gr 34 J 56 rfl rfl rfl rfl rfl rfl ?_
            refine aw_step (f1 := (57, [some (.ref 0), some (.int b), some (.int c), some (.int th), some (.int wh), some (.int wa)], [(.ref 0), (.ref 34)])) (w1 := w) rfl rfl ?_
            refine s_gr 3 J 60 rfl rfl rfl rfl rfl rfl ?_
            refine aw_step (f1 := (61, [some (.ref 0), some (.int b), some (.int c), some (.int th), some (.int wh), some (.int wa)], [(.ref 0), (.ref 3), (.ref 34)])) (w1 := w) rfl rfl ?_
            refine s_gr 3 J 64 rfl rfl rfl rfl rfl rfl ?_
            refine s_gr 7 J 67 rfl rfl rfl rfl rfl rfl ?_
            refine aw_step (f1 := (68, [some (.ref 0), some (.int b), some (.int c), some (.int th), some (.int wh), some (.int wa)], [(.int b), (.ref 7), (.ref 3), (.ref 34)])) (w1 := w) rfl rfl ?_
            refine s_ia J 69 rfl rfl rfl rfl (by omega) (by omega) fun x21 x21a x21b x21f => ?_
            have x21v : x21.toInt = rI w 7 b.toInt.toNat := by rw [← rI_of x21f]
            have hl : x21.toInt = V (8 + 4 * b.toInt.toNat + 0) := by rw [x21v]; exact R.rv (r := 4) (i := b.toInt.toNat) (by decide) (by decide) (by omega) (by show b.toInt.toNat < 4; omega)
            refine aw_step (f1 := (70, [some (.ref 0), some (.int b), some (.int c), some (.int th), some (.int wh), some (.int wa)], [(.ref 0), (.int x21), (.ref 3), (.ref 34)])) (w1 := w) rfl rfl ?_
            refine s_gr 3 J 73 rfl rfl rfl rfl rfl rfl ?_
            refine s_gr 7 J 76 rfl rfl rfl rfl rfl rfl ?_
            refine aw_step (f1 := (77, [some (.ref 0), some (.int b), some (.int c), some (.int th), some (.int wh), some (.int wa)], [(.int th), (.ref 7), (.int x21), (.ref 3), (.ref 34)])) (w1 := w) rfl rfl ?_
            refine s_ia J 78 rfl rfl rfl rfl (by omega) (by omega) fun x22 x22a x22b x22f => ?_
            have x22v : x22.toInt = rI w 7 th.toInt.toNat := by rw [← rI_of x22f]
            have hm : x22.toInt = V (8 + 4 * th.toInt.toNat + 0) := by rw [x22v]; exact R.rv (r := 4) (i := th.toInt.toNat) (by decide) (by decide) (by omega) (by show th.toInt.toNat < 4; omega)
            refine s_cv (z := 1) (p := 34) (as := [(.ref 3), (.int x21), (.int x22)]) (st1 := []) J 81 rfl rfl rfl rfl rfl rfl rfl rfl (Nat.le_of_ble_eq_true rfl) (Nat.le_of_ble_eq_true rfl) (e_begin R x21 x22 ⟨by omega, by omega⟩ ⟨by omega, by omega⟩ J.1) ?_
            rintro _ w23 ⟨rfl, J24c, w23o, w23s, w23p⟩
            have J24 := J.trans J24c
            refine ⟨am_len2 J J24c, ?_⟩
            show aw none _ 90 _ (81, [some (.ref 0), some (.int b), some (.int c), some (.int th), some (.int wh), some (.int wa)], []) w23
            have w23q := w23p
            rw [hl, hm] at w23q
            refine aw_step (f1 := (82, [some (.ref 0), some (.int b), some (.int c), some (.int th), some (.int wh), some (.int wa)], [(.ref 0)])) (w1 := w23) rfl rfl ?_
            refine s_gr 34 J24 85 rfl rfl rfl rfl rfl rfl ?_
            refine aw_step (f1 := (86, [some (.ref 0), some (.int b), some (.int c), some (.int th), some (.int wh), some (.int wa)], [(.int c), (.ref 34)])) (w1 := w23) rfl rfl ?_
            refine aw_step (f1 := (88, [some (.ref 0), some (.int b), some (.int c), some (.int th), some (.int wh), some (.int wa)], [(.int wh), (.int c), (.ref 34)])) (w1 := w23) rfl rfl ?_
            refine s_cv (z := 2) (p := 34) (as := [(.int c), (.int wh)]) (st1 := []) J24 91 rfl rfl rfl rfl rfl rfl rfl rfl (Nat.le_of_ble_eq_true rfl) (Nat.le_of_ble_eq_true rfl) (e_hunt (by omega) (by omega) c wh ⟨by omega, by omega⟩ ⟨by omega, by omega⟩ ⟨by omega, by omega⟩ w23s (fun q h => (w23q q h).1) (fun q h => (w23q q h).2.1) (fun q h => (w23q q h).2.2) J24.1) ?_
            rintro _ w25 ⟨rfl, J26c, w25p⟩
            have J26 := J24.trans J26c
            refine ⟨am_len2 J24 J26c, ?_⟩
            show aw none _ 90 _ (91, [some (.ref 0), some (.int b), some (.int c), some (.int th), some (.int wh), some (.int wa)], []) w25
            refine aw_step (f1 := (93, [some (.ref 0), some (.int b), some (.int c), some (.int th), some (.int wh), some (.int wa)], [(.int wa)])) (w1 := w25) rfl rfl ?_
            refine s_if 106 96 rfl rfl rfl (fun (h27 : ¬ wa.toInt = 0) => ?_) (fun (h27 : ¬ (¬ wa.toInt = 0)) => ?_)
            · --
              --
              refine aw_step (f1 := (107, [some (.ref 0), some (.int b), some (.int c), some (.int th), some (.int wh), some (.int wa)], [(.ref 0)])) (w1 := w25) rfl rfl ?_
              refine s_gr 34 J26 110 rfl rfl rfl rfl rfl rfl ?_
              refine s_gi J26 113 rfl rfl rfl rfl rfl rfl fun x28 x28a x28b x28f => ?_
              --
              refine aw_ret (v := some (.int x28)) rfl rfl ?_
              refine ⟨J26, x28, rfl, Or.inr (Or.inr ⟨by omega, by omega, ?_⟩)⟩
              have hp := w25p
              rw [show fI w25 34 6 = x28.toInt from fI_of x28f] at hp
              rcases hp with ⟨q1, q2, q3⟩ | ⟨q1, q2, q3⟩ | ⟨n, q0, q1, q2, q3⟩
              · exact Or.inl ⟨by omega, Or.inl q3⟩
              · first
                | exact Or.inl ⟨by omega, Or.inr ⟨by omega, by omega⟩⟩
                | exact Or.inr ⟨0, ⟨⟨q1, ⟨by omega, by omega⟩⟩, fun k hk => by omega⟩, Or.inl ⟨by omega, by omega⟩⟩
              · first
                | exact Or.inr ⟨n, q1, Or.inl ⟨by omega, by omega⟩⟩
                | exact Or.inr ⟨n, q1, Or.inr ⟨by omega, q0, q3⟩⟩
            · --
              --
              refine aw_step (f1 := (97, [some (.ref 0), some (.int b), some (.int c), some (.int th), some (.int wh), some (.int wa)], [(.ref 0)])) (w1 := w25) rfl rfl ?_
              refine s_gr 34 J26 100 rfl rfl rfl rfl rfl rfl ?_
              refine s_gi J26 103 rfl rfl rfl rfl rfl rfl fun x29 x29a x29b x29f => ?_
              --
              refine aw_step (f1 := (113, [some (.ref 0), some (.int b), some (.int c), some (.int th), some (.int wh), some (.int wa)], [(.int x29)])) (w1 := w25) rfl rfl ?_
              refine aw_ret (v := some (.int x29)) rfl rfl ?_
              refine ⟨J26, x29, rfl, Or.inr (Or.inr ⟨by omega, by omega, ?_⟩)⟩
              have hp := w25p
              rw [show fI w25 34 5 = x29.toInt from fI_of x29f] at hp
              rcases hp with ⟨q1, q2, q3⟩ | ⟨q1, q2, q3⟩ | ⟨n, q0, q1, q2, q3⟩
              · exact Or.inl ⟨by omega, Or.inl q3⟩
              · first
                | exact Or.inl ⟨by omega, Or.inr ⟨by omega, by omega⟩⟩
                | exact Or.inr ⟨0, ⟨⟨q1, ⟨by omega, by omega⟩⟩, fun k hk => by omega⟩, Or.inl ⟨by omega, by omega⟩⟩
              · first
                | exact Or.inr ⟨n, q1, Or.inl ⟨by omega, by omega⟩⟩
                | exact Or.inr ⟨n, q1, Or.inr ⟨by omega, q0, q3⟩⟩
          · --
            refine s_i (pc1 := 51) (ls1 := [some (.ref 0), some (.int b), some (.int c), some (.int th), some (.int wh), some (.int wa)]) (st1 := []) rfl rfl fun x30 e31 => ?_
            have e31t : x30.toInt = -2 := by rw [e31]; rfl
            refine aw_ret (v := some (.int x30)) rfl rfl ?_
            first
              | exact ⟨J, x30, rfl, Or.inl ⟨by omega, by omega⟩⟩
              | exact ⟨J, x30, rfl, Or.inr (Or.inl ⟨by omega, by omega, by omega⟩)⟩
        · --
          refine s_i (pc1 := 38) (ls1 := [some (.ref 0), some (.int b), some (.int c), some (.int th), some (.int wh), some (.int wa)]) (st1 := []) rfl rfl fun x32 e33 => ?_
          have e33t : x32.toInt = -1 := by rw [e33]; rfl
          refine aw_ret (v := some (.int x32)) rfl rfl ?_
          first
            | exact ⟨J, x32, rfl, Or.inl ⟨by omega, by omega⟩⟩
            | exact ⟨J, x32, rfl, Or.inr (Or.inl ⟨by omega, by omega, by omega⟩)⟩
theorem wsN_le {r : Nat → Int} {y g t : Nat} {n : Int} (h0 : 0 ≤ n) : ∀ N, wsN r y g t N ≤ n ↔ ∀ i, i < N → (t = i ∨ bt y i = 1) → i ≠ g → r (36 * g + i) ≤ n
  | 0 => ⟨fun _ i hi => by omega, fun _ => h0⟩
  | N + 1 => by
    have ih := wsN_le (r := r) (y := y) (g := g) (t := t) h0 N
    show max (wsN r y g t N) (if (t = N ∨ bt y N = 1) ∧ N ≠ g then r (36 * g + N) else 0) ≤ n ↔ _
    constructor
    · intro h i hi a b
      by_cases e : i = N
      · subst e
        rw [if_pos ⟨a, b⟩] at h
        omega
      · exact ih.mp (by omega) i (by omega) a b
    · intro h
      have a := ih.mpr fun i hi => h i (by omega)
      by_cases q : (t = N ∨ bt y N = 1) ∧ N ≠ g
      · rw [if_pos q]
        have := h N (by omega) q.1 q.2
        omega
      · rw [if_neg q]; omega
theorem bsN_to {r : Nat → Int} {x y g t sz b : Nat} (hb : g = b ∨ bt x b = 1) : ∀ N, b < N → bsN r x y g t sz N ≤ wsT r y b t sz
  | 0, h => by omega
  | N + 1, h => by
    show min (bsN r x y g t sz N) (if g = N ∨ bt x N = 1 then wsT r y N t sz else 100000) ≤ _
    by_cases e : b = N
    · subst e
      rw [if_pos hb]
      exact Int.min_le_right _ _
    · have := bsN_to (r := r) (y := y) (t := t) (sz := sz) hb N (by omega)
      omega
section GM
variable {V : Nat → Int} {L M : Int} {wb w : am_W}
theorem wsT_C (hz : szV V ≤ 36) (hsz : szM wb = szV V) (lr1 : lrV V M (rL wb 75)) (n : Nat) (hI : ∀ a b, ldN V a → ldN V b → (rI w 86 (36 * a + b) ≤ n ↔ WG V L M n a b)) {g t : Nat} (hg : ldN V g) (ht : ldN V t) : wsT (rI w 86) (rL wb 75 t) g t (szM wb).toNat ≤ n ↔ CG V L M n g t := by
  have lt := lr1 t
  unfold wsT
  by_cases q : g = t
  · rw [if_pos q]
    exact ⟨fun _ => Or.inl q, fun _ => by omega⟩
  · rw [if_neg q, wsN_le (by omega)]
    have h1 := ht.1
    constructor
    · intro h
      refine Or.inr fun t' ht' => ?_
      have tl : ldN V t' := by
        rcases ht' with u | u
        · rw [u]; exact ht
        · exact u.1
      by_cases e : t' = g
      · rw [e]; exact WG_le (Nat.zero_le _) ⟨rfl, hg⟩
      · refine (hI g t' hg tl).mp (h t' (by have := tl.1; omega) ?_ e)
        rcases ht' with u | u
        · exact Or.inl u.symm
        · exact Or.inr ((lt t' h1).mpr ⟨ht.2, u⟩)
    · rintro (h | h) i hi a b
      · exact absurd h q
      · have il : i = t ∨ eV V M t i := by
          rcases a with a | a
          · exact Or.inl a.symm
          · exact Or.inr ((lt i h1).mp a).2
        have ld : ldN V i := by
          rcases il with u | u
          · rw [u]; exact ht
          · exact u.1
        exact (hI g i hg ld).mpr (h i il)
theorem gR_W (hz : szV V ≤ 36) (hsz : szM wb = szV V) (hb : ∀ j, 0 ≤ rI w 86 j ∧ rI w 86 j ≤ 100000) (hl : ∀ c : Nat, ldM wb c ↔ ldN V c) (lr0 : lrV V L (rL wb 74)) (lr1 : lrV V M (rL wb 75)) (h1 : gI wb w) (h2 : gF wb w (szM wb) 0) : ∀ n : Nat, n < 100000 → ∀ g t, ldN V g → ldN V t → (rI w 86 (36 * g + t) ≤ n ↔ WG V L M n g t) := by
  have s36 : ∀ g, ldN V g → g < 36 := fun g h => by have := h.1; omega
  intro n
  induction n with
  | zero =>
    intro _ g t hg ht
    have g3 := hg.1
    have t3 := ht.1
    constructor
    · intro h
      by_cases e : g = t
      · exact ⟨e, ht⟩
      · exfalso
        have a := h1.2 g t (by omega) (by omega) e (by omega)
        have bb := hb (36 * g + t)
        unfold gB bst at a
        have bn := bsN_b (r := rI w 86) (x := rL wb 74 g) (y := rL wb 75 t) (g := g) (t := t) (sz := (szM wb).toNat) hb (by omega) (szM wb).toNat (by omega)
        split at a <;> omega
    · rintro ⟨e, -⟩
      rw [e, h1.1 t (s36 t ht)]
      exact Int.le_refl _
  | succ n ih =>
    intro hn g t hg ht
    have ih := ih (by omega)
    have g3 := hg.1
    have t3 := ht.1
    have lg := lr0 g
    have mv : ∀ b, (g = b ∨ bt (rL wb 74 g) b = 1) ↔ (b = g ∨ eV V L g b) := fun b => by
      constructor
      · rintro (u | u)
        · exact Or.inl u.symm
        · exact Or.inr ((lg b g3).mp u).2
      · rintro (u | u)
        · exact Or.inl u.symm
        · exact Or.inr ((lg b g3).mpr ⟨hg.2, u⟩)
    have ml : ∀ b, (b = g ∨ eV V L g b) → ldN V b := fun b u => by
      rcases u with u | u
      · rw [u]; exact hg
      · exact u.1
    by_cases e : g = t
    · subst e
      rw [h1.1 g (s36 g hg)]
      exact ⟨fun _ => WG_le (Nat.zero_le _) ⟨rfl, hg⟩, fun _ => by omega⟩
    · have bn := bsN_b (r := rI w 86) (x := rL wb 74 g) (y := rL wb 75 t) (g := g) (t := t) (sz := (szM wb).toNat) hb (by omega) (szM wb).toNat (by omega)
      constructor
      · intro h
        have a := h1.2 g t (by omega) (by omega) e (by omega)
        unfold gB bst at a
        have c : bsN (rI w 86) (rL wb 74 g) (rL wb 75 t) g t (szM wb).toNat (szM wb).toNat ≤ n := by
          split at a <;> omega
        obtain ⟨b, b1, b2, b3⟩ := bsN_at (r := rI w 86) (x := rL wb 74 g) (y := rL wb 75 t) (g := g) (t := t) (sz := (szM wb).toNat) (szM wb).toNat (by omega)
        have b4 := (mv b).mp b2
        exact ⟨⟨hg, ht⟩, b, b4, (wsT_C hz hsz lr1 n ih (ml b b4) ht).mp (by omega)⟩
      · rintro ⟨-, b, b1, b2⟩
        have bl := ml b b1
        have b5 := bl.1
        have c := (wsT_C hz hsz lr1 n ih bl ht).mpr b2
        have dd := bsN_to (r := rI w 86) (y := rL wb 75 t) (t := t) (sz := (szM wb).toNat) ((mv b).mpr b1) (szM wb).toNat (by omega)
        have f := h2 g t (Or.inl (by omega)) (by omega) (by omega) e ((hl g).mpr hg) ((hl t).mpr ht)
        unfold gB bst at f
        split at f <;> omega
end GM
theorem f_grW {d : Nat} {Q : Option Value → am_W → Prop} {w00 w : am_W} (J : ab_J ab_TT ab_sets ab_WR w00 w) (b c th wh wa is : Int32) (hc : 0 ≤ c.toInt ∧ c.toInt < 36) (hw : 0 ≤ wh.toInt ∧ wh.toInt < 36) (cn : Nat → Prop) (hcn : ∀ j, cn j ↔ (c.toInt.toNat = j ∨ bt (rL w 74 c.toInt.toNat) j = 1) ∧ wsT (rI w 86) (rL w 75 wh.toInt.toNat) j wh.toInt.toNat (szM w).toNat + 1 = is.toInt) (e : Nat) (h36 : e < 36) (he : cn e) (K : ∀ z : Int32, 0 ≤ z.toInt → cn z.toInt.toNat → (∀ j, j < z.toInt.toNat → ¬ cn j) → Q (some (.int z)) w) : ∀ (m : Nat) (k : Int32), e + 1 - k.toInt.toNat < m → 0 ≤ k.toInt → k.toInt ≤ e → (∀ j, j < k.toInt.toNat → ¬ cn j) → aw none (d + 3) 176 Q (94, [some (.ref 65), some (.int b), some (.int c), some (.int th), some (.int wh), some (.int wa), some (.int is), some (.int k)], []) w := by
  intro m
  induction m with
  | zero => intro k p; omega
  | succ m ih =>
    intro k p1 p2 p3 F
    refine aw_step (f1 := (95, [some (.ref 65), some (.int b), some (.int c), some (.int th), some (.int wh), some (.int wa), some (.int is), some (.int k)], [(.ref 65)])) (w1 := w) rfl rfl ?_
    refine aw_step (f1 := (96, [some (.ref 65), some (.int b), some (.int c), some (.int th), some (.int wh), some (.int wa), some (.int is), some (.int k)], [(.ref 65), (.ref 65)])) (w1 := w) rfl rfl ?_
    refine s_gr 74 J 99 rfl rfl rfl rfl rfl rfl ?_
    refine aw_step (f1 := (100, [some (.ref 65), some (.int b), some (.int c), some (.int th), some (.int wh), some (.int wa), some (.int is), some (.int k)], [(.int c), (.ref 74), (.ref 65)])) (w1 := w) rfl rfl ?_
    refine s_la J 101 rfl rfl rfl (by omega) (by omega) fun y1 y1a y1b y1f => ?_
    have ly : rL w 74 c.toInt.toNat = n64 y1 := rL_of y1f
    refine aw_step (f1 := (102, [some (.ref 65), some (.int b), some (.int c), some (.int th), some (.int wh), some (.int wa), some (.int is), some (.int k)], [(.int c), (.long y1), (.ref 65)])) (w1 := w) rfl rfl ?_
    refine aw_step (f1 := (104, [some (.ref 65), some (.int b), some (.int c), some (.int th), some (.int wh), some (.int wa), some (.int is), some (.int k)], [(.int k), (.int c), (.long y1), (.ref 65)])) (w1 := w) rfl rfl ?_
    refine s_cv (z := 172) (p := 65) (as := [(.long y1), (.int c), (.int k)]) (st1 := []) J 107 rfl rfl rfl rfl rfl rfl rfl rfl (Nat.le_of_ble_eq_true rfl) (Nat.le_of_ble_eq_true rfl) (q_mayGo y1 c k ⟨by omega, by omega⟩) ?_
    rintro _ _ ⟨rfl, x2, rfl, x2t⟩
    refine ⟨rfl, ?_⟩
    show aw none _ 176 _ (107, [some (.ref 65), some (.int b), some (.int c), some (.int th), some (.int wh), some (.int wa), some (.int is), some (.int k)], [(.int x2)]) w
    refine s_if 125 110 rfl rfl rfl (fun (h3 : x2.toInt = 0) => ?_) (fun (h3 : ¬ (x2.toInt = 0)) => ?_)
    · --
      refine aw_step (f1 := (128, [some (.ref 65), some (.int b), some (.int c), some (.int th), some (.int wh), some (.int wa), some (.int is), some (.int (k + Int32.ofInt 1))], [])) (w1 := w) rfl rfl ?_
      obtain ⟨x4, x4e⟩ : ∃ z, z = (k + Int32.ofInt 1) := ⟨_, rfl⟩
      have x4t : x4.toInt = k.toInt + (1) := by rw [x4e]; exact n_add (y := Int32.ofInt (1)) (by show _ ≤ _ + (1 : Int); omega) (by show _ + (1 : Int) ≤ _; omega)
      rw [← x4e]
      refine aw_step (f1 := (94, [some (.ref 65), some (.int b), some (.int c), some (.int th), some (.int wh), some (.int wa), some (.int is), some (.int x4)], [])) (w1 := w) rfl rfl ?_
      have nk : ¬ cn k.toInt.toNat := by rw [hcn]; rintro ⟨u1, u2⟩; rw [ly] at u1; omega
      have nb : k.toInt.toNat ≠ e := fun u => nk (by rw [u]; exact he)
      exact ih x4 (by omega) (by omega) (by omega) (fun j hj => by
        by_cases u : j = k.toInt.toNat
        · rw [u]; exact nk
        · exact F j (by omega))
    · --
      refine aw_step (f1 := (111, [some (.ref 65), some (.int b), some (.int c), some (.int th), some (.int wh), some (.int wa), some (.int is), some (.int k)], [(.ref 65)])) (w1 := w) rfl rfl ?_
      refine aw_step (f1 := (113, [some (.ref 65), some (.int b), some (.int c), some (.int th), some (.int wh), some (.int wa), some (.int is), some (.int k)], [(.int k), (.ref 65)])) (w1 := w) rfl rfl ?_
      refine aw_step (f1 := (115, [some (.ref 65), some (.int b), some (.int c), some (.int th), some (.int wh), some (.int wa), some (.int is), some (.int k)], [(.int wh), (.int k), (.ref 65)])) (w1 := w) rfl rfl ?_
      refine s_cv (z := 173) (p := 65) (as := [(.int k), (.int wh)]) (st1 := []) J 118 rfl rfl rfl rfl rfl rfl rfl rfl (Nat.le_of_ble_eq_true rfl) (Nat.le_of_ble_eq_true rfl) (q_worstFrom k wh ⟨by omega, by omega⟩ ⟨by omega, by omega⟩ J.1) ?_
      rintro _ _ ⟨rfl, x5, rfl, x5t⟩
      refine ⟨rfl, ?_⟩
      show aw none _ 176 _ (118, [some (.ref 65), some (.int b), some (.int c), some (.int th), some (.int wh), some (.int wa), some (.int is), some (.int k)], [(.int x5)]) w
      have x5b := wsT_b (r := rI w 86) (y := rL w 75 wh.toInt.toNat) (g := k.toInt.toNat) (t := wh.toInt.toNat) (sz := (szM w).toNat) (rds_b J.1) (by omega) (by have := szM_in J.1; omega)
      refine s_i (pc1 := 119) (ls1 := [some (.ref 65), some (.int b), some (.int c), some (.int th), some (.int wh), some (.int wa), some (.int is), some (.int k)]) (st1 := [(.int x5)]) rfl rfl fun x6 e7 => ?_
      have e7t : x6.toInt = 1 := by rw [e7]; rfl
      refine s_i (pc1 := 120) (ls1 := [some (.ref 65), some (.int b), some (.int c), some (.int th), some (.int wh), some (.int wa), some (.int is), some (.int k)]) (st1 := []) rfl rfl fun x8 e9 => ?_
      have e9 : x8 = x5 + x6 := e9
      have e9t : x8.toInt = x5.toInt + x6.toInt := by rw [e9]; exact n_add (by omega) (by omega)
      refine aw_step (f1 := (122, [some (.ref 65), some (.int b), some (.int c), some (.int th), some (.int wh), some (.int wa), some (.int is), some (.int k)], [(.int is), (.int x8)])) (w1 := w) rfl rfl ?_
      refine s_ic 131 125 rfl rfl rfl (fun (h10 : x8.toInt = is.toInt) => ?_) (fun (h10 : ¬ (x8.toInt = is.toInt)) => ?_)
      · --
        refine aw_step (f1 := (133, [some (.ref 65), some (.int b), some (.int c), some (.int th), some (.int wh), some (.int wa), some (.int is), some (.int k)], [(.int k)])) (w1 := w) rfl rfl ?_
        refine aw_ret (v := some (.int k)) rfl rfl ?_
        exact K k (by omega) (by rw [hcn, ly]; omega) (fun j hj => F j (by omega))
      · --
        refine aw_step (f1 := (128, [some (.ref 65), some (.int b), some (.int c), some (.int th), some (.int wh), some (.int wa), some (.int is), some (.int (k + Int32.ofInt 1))], [])) (w1 := w) rfl rfl ?_
        obtain ⟨x11, x11e⟩ : ∃ z, z = (k + Int32.ofInt 1) := ⟨_, rfl⟩
        have x11t : x11.toInt = k.toInt + (1) := by rw [x11e]; exact n_add (y := Int32.ofInt (1)) (by show _ ≤ _ + (1 : Int); omega) (by show _ + (1 : Int) ≤ _; omega)
        rw [← x11e]
        refine aw_step (f1 := (94, [some (.ref 65), some (.int b), some (.int c), some (.int th), some (.int wh), some (.int wa), some (.int is), some (.int x11)], [])) (w1 := w) rfl rfl ?_
        have nk : ¬ cn k.toInt.toNat := by rw [hcn]; rintro ⟨u1, u2⟩; rw [ly] at u1; omega
        have nb : k.toInt.toNat ≠ e := fun u => nk (by rw [u]; exact he)
        exact ih x11 (by omega) (by omega) (by omega) (fun j hj => by
          by_cases u : j = k.toInt.toNat
          · rw [u]; exact nk
          · exact F j (by omega))
theorem f_guard {d : Nat} {w : am_W} {V : Nat → Int} (R : RMs w V) (b c th wh wa : Int32) (I : ab_inv ab_TT ab_sets w) : aw none (d + 6) 176 (fun r w1 => ab_J ab_TT ab_sets ab_WR w w1 ∧ ∃ z : Int32, r = some (.int z) ∧ grdP V b.toInt c.toInt th.toInt wh.toInt wa.toInt z.toInt) (0, am_entry 176 [.ref 65, .int b, .int c, .int th, .int wh, .int wa], []) w := by
  have J : ab_J ab_TT ab_sets ab_WR w w := ⟨I, ab_fr.rf⟩
  have szm := szM_in I
  have hsz := R.sz
  have hl0 : ∀ c : Int32, 0 ≤ c.toInt → c.toInt < szV V → rI w 66 c.toInt.toNat = V (40 + c.toInt.toNat) := fun c a b => R.rc (by omega)
  show aw none (d + 6) 176 _ (0, [some (.ref 65), some (.int b), some (.int c), some (.int th), some (.int wh), some (.int wa), none, none], []) w
  refine aw_step (f1 := (1, [some (.ref 65), some (.int b), some (.int c), some (.int th), some (.int wh), some (.int wa), none, none], [(.ref 65)])) (w1 := w) rfl rfl ?_
  refine aw_step (f1 := (2, [some (.ref 65), some (.int b), some (.int c), some (.int th), some (.int wh), some (.int wa), none, none], [(.int b), (.ref 65)])) (w1 := w) rfl rfl ?_
  refine aw_step (f1 := (3, [some (.ref 65), some (.int b), some (.int c), some (.int th), some (.int wh), some (.int wa), none, none], [(.int c), (.int b), (.ref 65)])) (w1 := w) rfl rfl ?_
  refine aw_step (f1 := (5, [some (.ref 65), some (.int b), some (.int c), some (.int th), some (.int wh), some (.int wa), none, none], [(.int wh), (.int c), (.int b), (.ref 65)])) (w1 := w) rfl rfl ?_
  refine s_cv (z := 143) (p := 65) (as := [(.int b), (.int c), (.int wh)]) (st1 := []) J 8 rfl rfl rfl rfl rfl rfl rfl rfl (Nat.le_of_ble_eq_true rfl) (Nat.le_of_ble_eq_true rfl) (q_isAsked b c wh J.1) ?_
  rintro _ _ ⟨rfl, x1, rfl, x1t⟩
  refine ⟨rfl, ?_⟩
  show aw none _ 176 _ (8, [some (.ref 65), some (.int b), some (.int c), some (.int th), some (.int wh), some (.int wa), none, none], [(.int x1)]) w
  have x1s := szM_in J.1
  refine s_if 18 11 rfl rfl rfl (fun (h2 : x1.toInt = 0) => ?_) (fun (h2 : ¬ (x1.toInt = 0)) => ?_)
  · --
    refine s_i (pc1 := 19) (ls1 := [some (.ref 65), some (.int b), some (.int c), some (.int th), some (.int wh), some (.int wa), none, none]) (st1 := []) rfl rfl fun x3 e4 => ?_
    have e4t : x3.toInt = -1 := by rw [e4]; rfl
    refine aw_ret (v := some (.int x3)) rfl rfl ?_
    first
      | exact ⟨J, x3, rfl, Or.inl ⟨by omega, by have := hl0 c; have := hl0 wh; omega⟩⟩
      | exact ⟨J, x3, rfl, Or.inr (Or.inl ⟨by omega, by have := hl0 c; have := hl0 wh; omega, by omega⟩)⟩
  · --
    refine aw_step (f1 := (12, [some (.ref 65), some (.int b), some (.int c), some (.int th), some (.int wh), some (.int wa), none, none], [(.int th)])) (w1 := w) rfl rfl ?_
    refine s_cs (z := 116) (as := [(.int th)]) (st1 := []) 15 rfl rfl rfl rfl rfl rfl (Nat.le_of_ble_eq_true rfl) (Nat.le_of_ble_eq_true rfl) (Nat.le_of_ble_eq_true rfl) (q_areBoots th) ?_
    rintro _ _ ⟨rfl, x5, rfl, x5t⟩
    refine ⟨rfl, ?_⟩
    show aw none _ 176 _ (15, [some (.ref 65), some (.int b), some (.int c), some (.int th), some (.int wh), some (.int wa), none, none], [(.int x5)]) w
    refine s_if 20 18 rfl rfl rfl (fun (h6 : ¬ x5.toInt = 0) => ?_) (fun (h6 : ¬ (¬ x5.toInt = 0)) => ?_)
    · --
      refine aw_step (f1 := (22, [some (.ref 65), some (.int b), some (.int c), some (.int th), some (.int wh), some (.int wa), none, none], [(.int wa)])) (w1 := w) rfl rfl ?_
      refine s_l (pc1 := 23) (ls1 := [some (.ref 65), some (.int b), some (.int c), some (.int th), some (.int wh), some (.int wa), none, none]) (st1 := []) rfl rfl fun y7 e8 => ?_
      have e8t : y7.toInt = wa.toInt := by rw [e8]; exact Int32.toInt_toInt64 wa
      refine s_l (pc1 := 24) (ls1 := [some (.ref 65), some (.int b), some (.int c), some (.int th), some (.int wh), some (.int wa), none, none]) (st1 := [(.long y7)]) rfl rfl fun y9 e10 => ?_
      have e10t : y9.toInt = 0 := by rw [e10]; rfl
      refine s_l (pc1 := 25) (ls1 := [some (.ref 65), some (.int b), some (.int c), some (.int th), some (.int wh), some (.int wa), none, none]) (st1 := [(.long y9), (.long y7)]) rfl rfl fun y11 e12 => ?_
      have e12t : y11.toInt = 1 := by rw [e12]; rfl
      refine s_cs (z := 108) (as := [(.long y7), (.long y9), (.long y11)]) (st1 := []) 28 rfl rfl rfl rfl rfl rfl (Nat.le_of_ble_eq_true rfl) (Nat.le_of_ble_eq_true rfl) (Nat.le_of_ble_eq_true rfl) (q_in2 y7 y9 y11) ?_
      rintro _ _ ⟨rfl, x13, rfl, x13t⟩
      refine ⟨rfl, ?_⟩
      show aw none _ 176 _ (28, [some (.ref 65), some (.int b), some (.int c), some (.int th), some (.int wh), some (.int wa), none, none], [(.int x13)]) w
      refine s_if 34 31 rfl rfl rfl (fun (h14 : ¬ x13.toInt = 0) => ?_) (fun (h14 : ¬ (¬ x13.toInt = 0)) => ?_)
      · --
        refine aw_step (f1 := (35, [some (.ref 65), some (.int b), some (.int c), some (.int th), some (.int wh), some (.int wa), none, none], [(.ref 65)])) (w1 := w) rfl rfl ?_
        refine aw_step (f1 := (36, [some (.ref 65), some (.int b), some (.int c), some (.int th), some (.int wh), some (.int wa), none, none], [(.int b), (.ref 65)])) (w1 := w) rfl rfl ?_
        refine s_cv (z := 133) (p := 65) (as := [(.int b)]) (st1 := []) J 39 rfl rfl rfl rfl rfl rfl rfl rfl (Nat.le_of_ble_eq_true rfl) (Nat.le_of_ble_eq_true rfl) (q_putOn b ⟨by omega, by omega⟩ J.1) ?_
        rintro _ w15 ⟨rfl, J16c, w15o, w15p⟩
        have J16 := J.trans J16c
        refine ⟨am_len2 J J16c, ?_⟩
        show aw none _ 176 _ (39, [some (.ref 65), some (.int b), some (.int c), some (.int th), some (.int wh), some (.int wa), none, none], []) w15
        refine aw_step (f1 := (40, [some (.ref 65), some (.int b), some (.int c), some (.int th), some (.int wh), some (.int wa), none, none], [(.ref 65)])) (w1 := w15) rfl rfl ?_
        refine aw_step (f1 := (41, [some (.ref 65), some (.int b), some (.int c), some (.int th), some (.int wh), some (.int wa), none, none], [(.int th), (.ref 65)])) (w1 := w15) rfl rfl ?_
        refine s_cv (z := 134) (p := 65) (as := [(.int th)]) (st1 := []) J16 44 rfl rfl rfl rfl rfl rfl rfl rfl (Nat.le_of_ble_eq_true rfl) (Nat.le_of_ble_eq_true rfl) (q_layOther th ⟨by omega, by omega⟩ J16.1) ?_
        rintro _ w17 ⟨rfl, J18c, w17o, w17p⟩
        have J18 := J16.trans J18c
        refine ⟨am_len2 J16 J18c, ?_⟩
        show aw none _ 176 _ (44, [some (.ref 65), some (.int b), some (.int c), some (.int th), some (.int wh), some (.int wa), none, none], []) w17
        refine aw_step (f1 := (45, [some (.ref 65), some (.int b), some (.int c), some (.int th), some (.int wh), some (.int wa), none, none], [(.ref 65)])) (w1 := w17) rfl rfl ?_
        refine s_cv (z := 175) (p := 65) (as := []) (st1 := []) J18 48 rfl rfl rfl rfl rfl rfl rfl rfl (Nat.le_of_ble_eq_true rfl) (Nat.le_of_ble_eq_true rfl) (q_findRounds J18.1) ?_
        rintro _ w19 ⟨rfl, J20c, w19o, w19p, w19q⟩
        have J20 := J18.trans J20c
        refine ⟨am_len2 J18 J20c, ?_⟩
        show aw none _ 176 _ (48, [some (.ref 65), some (.int b), some (.int c), some (.int th), some (.int wh), some (.int wa), none, none], []) w19
        refine aw_step (f1 := (49, [some (.ref 65), some (.int b), some (.int c), some (.int th), some (.int wh), some (.int wa), none, none], [(.ref 65)])) (w1 := w19) rfl rfl ?_
        refine s_gr 86 J20 52 rfl rfl rfl rfl rfl rfl ?_
        refine s_i (pc1 := 54) (ls1 := [some (.ref 65), some (.int b), some (.int c), some (.int th), some (.int wh), some (.int wa), none, none]) (st1 := [(.ref 86)]) rfl rfl fun x21 e22 => ?_
        have e22t : x21.toInt = 36 := by rw [e22]; rfl
        refine aw_step (f1 := (55, [some (.ref 65), some (.int b), some (.int c), some (.int th), some (.int wh), some (.int wa), none, none], [(.int c), (.int x21), (.ref 86)])) (w1 := w19) rfl rfl ?_
        refine s_i (pc1 := 56) (ls1 := [some (.ref 65), some (.int b), some (.int c), some (.int th), some (.int wh), some (.int wa), none, none]) (st1 := [(.ref 86)]) rfl rfl fun x23 e24 => ?_
        have e24 : x23 = x21 * c := e24
        have e24t : x23.toInt = 36 * c.toInt := by rw [e24, n_mul (by rw [e22t]; omega) (by rw [e22t]; omega), e22t]
        refine aw_step (f1 := (58, [some (.ref 65), some (.int b), some (.int c), some (.int th), some (.int wh), some (.int wa), none, none], [(.int wh), (.int x23), (.ref 86)])) (w1 := w19) rfl rfl ?_
        refine s_i (pc1 := 59) (ls1 := [some (.ref 65), some (.int b), some (.int c), some (.int th), some (.int wh), some (.int wa), none, none]) (st1 := [(.ref 86)]) rfl rfl fun x25 e26 => ?_
        have e26 : x25 = x23 + wh := e26
        have e26t : x25.toInt = x23.toInt + wh.toInt := by rw [e26]; exact n_add (by omega) (by omega)
        --
        refine s_ia J20 60 rfl rfl rfl rfl (by omega) (by omega) fun x27 x27a x27b x27f => ?_
        --
        refine aw_step (f1 := (62, [some (.ref 65), some (.int b), some (.int c), some (.int th), some (.int wh), some (.int wa), some (.int x27), none], [])) (w1 := w19) rfl rfl ?_
        have hlc := hl0 c (by omega) (by omega)
        have hlw := hl0 wh (by omega) (by omega)
        have lc : ldN V c.toInt.toNat := ⟨by omega, by omega⟩
        have hcl := lc.2
        have lw : ldN V wh.toInt.toNat := ⟨by omega, by omega⟩
        have l67 : rI w 67 b.toInt.toNat = V (8 + 4 * b.toInt.toNat + 0) := R.ra (i := b.toInt.toNat) (c := 0) (by omega) (by decide)
        have lr := rowM_V R (by omega) w15p
        rw [l67] at lr
        have Rp := R.wr I J16
        have l67b : rI w15 67 th.toInt.toNat = V (8 + 4 * th.toInt.toNat + 0) := Rp.ra (i := th.toInt.toNat) (c := 0) (by omega) (by decide)
        have lrB := rowM_V Rp (by have := Rp.sz; omega) w17p
        rw [l67b] at lrB
        have lrA : lrV V (V (8 + 4 * b.toInt.toNat + 0)) (rL w17 74) := fun a b h => by rw [w17o.rLe (by decide)]; exact lr a b h
        have Ro := R.wr I J18
        have zo := Ro.sz
        have lm : ∀ q : Nat, ldM w17 q ↔ ldN V q := fun q => ldM_V Ro (by omega) q
        have GW := gR_W (V := V) (wb := w17) (w := w19) (by omega) zo (rds_b J20.1) lm lrA lrB w19p w19q
        have ix : x25.toInt.toNat = 36 * c.toInt.toNat + wh.toInt.toNat := by omega
        have iv : x27.toInt = rI w19 86 (36 * c.toInt.toNat + wh.toInt.toNat) := by rw [← ix]; exact (rI_of x27f).symm
        have ib := rds_b J20.1 (36 * c.toInt.toNat + wh.toInt.toNat)
        have r74 : rL w19 74 c.toInt.toNat = rL w17 74 c.toInt.toNat := w19o.rLe (by decide)
        have r75 : rL w19 75 wh.toInt.toNat = rL w17 75 wh.toInt.toNat := w19o.rLe (by decide)
        have mn : ∀ k, k < x27.toInt.toNat → ¬ WG V (V (8 + 4 * b.toInt.toNat + 0)) (V (8 + 4 * th.toInt.toNat + 0)) k c.toInt.toNat wh.toInt.toNat := fun k hk z => by
          have := (GW k (by omega) _ _ lc lw).mpr z
          omega
        refine aw_step (f1 := (64, [some (.ref 65), some (.int b), some (.int c), some (.int th), some (.int wh), some (.int wa), some (.int x27), none], [(.int x27)])) (w1 := w19) rfl rfl ?_
        refine s_i (pc1 := 66) (ls1 := [some (.ref 65), some (.int b), some (.int c), some (.int th), some (.int wh), some (.int wa), some (.int x27), none]) (st1 := [(.int x27)]) rfl rfl fun x28 e29 => ?_
        have e29t : x28.toInt = 100000 := by rw [e29]; rfl
        refine s_ic 80 69 rfl rfl rfl (fun (h30 : x27.toInt = x28.toInt) => ?_) (fun (h30 : ¬ (x27.toInt = x28.toInt)) => ?_)
        · --
          refine s_i (pc1 := 82) (ls1 := [some (.ref 65), some (.int b), some (.int c), some (.int th), some (.int wh), some (.int wa), some (.int x27), none]) (st1 := []) rfl rfl fun x31 e32 => ?_
          have e32t : x31.toInt = -6 := by rw [e32]; rfl
          refine aw_ret (v := some (.int x31)) rfl rfl ?_
          first
            | exact ⟨J20, x31, rfl, Or.inr (Or.inr ⟨by omega, by omega, Or.inr ⟨x27.toInt.toNat, ⟨wn, mn⟩, Or.inl ⟨by omega, by omega⟩⟩⟩)⟩
            | exact ⟨J20, x31, rfl, Or.inr (Or.inr ⟨by omega, by omega, Or.inl ⟨by omega, Or.inr ⟨by
                have := ((GW 0 (by omega) _ _ lc lw).mp (by omega)).1
                omega, by omega⟩⟩⟩)⟩
            | exact ⟨J20, x31, rfl, Or.inr (Or.inr ⟨by omega, by omega, Or.inl ⟨by omega, Or.inl fun n z => by
                have := (GW 1296 (by omega) _ _ lc lw).mpr (WG_1296 (by omega) z)
                omega⟩⟩)⟩
        · --
          refine aw_step (f1 := (71, [some (.ref 65), some (.int b), some (.int c), some (.int th), some (.int wh), some (.int wa), some (.int x27), none], [(.int x27)])) (w1 := w19) rfl rfl ?_
          refine s_if 83 74 rfl rfl rfl (fun (h33 : ¬ x27.toInt = 0) => ?_) (fun (h33 : ¬ (¬ x27.toInt = 0)) => ?_)
          · --
            have wn : WG V (V (8 + 4 * b.toInt.toNat + 0)) (V (8 + 4 * th.toInt.toNat + 0)) x27.toInt.toNat c.toInt.toNat wh.toInt.toNat := (GW x27.toInt.toNat (by omega) _ _ lc lw).mp (by omega)
            refine aw_step (f1 := (85, [some (.ref 65), some (.int b), some (.int c), some (.int th), some (.int wh), some (.int wa), some (.int x27), none], [(.int wa)])) (w1 := w19) rfl rfl ?_
            refine s_if 91 88 rfl rfl rfl (fun (h34 : ¬ wa.toInt = 0) => ?_) (fun (h34 : ¬ (¬ wa.toInt = 0)) => ?_)
            · --
              have wn1 := wn
              rw [show x27.toInt.toNat = x27.toInt.toNat - 1 + 1 by omega] at wn1
              obtain ⟨-, ex, ex1, ex2⟩ := wn1
              have exb : ex < 36 := by
                rcases ex1 with v | v
                · omega
                · have := v.1.1; omega
              refine s_i (pc1 := 92) (ls1 := [some (.ref 65), some (.int b), some (.int c), some (.int th), some (.int wh), some (.int wa), some (.int x27), none]) (st1 := []) rfl rfl fun x35 e36 => ?_
              have e36t : x35.toInt = 0 := by rw [e36]; rfl
              refine aw_step (f1 := (94, [some (.ref 65), some (.int b), some (.int c), some (.int th), some (.int wh), some (.int wa), some (.int x27), some (.int x35)], [])) (w1 := w19) rfl rfl ?_
              refine f_grW J20 b c th wh wa x27 ⟨by omega, by omega⟩ ⟨by omega, by omega⟩ (fun j => (j = c.toInt.toNat ∨ eV V (V (8 + 4 * b.toInt.toNat + 0)) c.toInt.toNat j) ∧ CG V (V (8 + 4 * b.toInt.toNat + 0)) (V (8 + 4 * th.toInt.toNat + 0)) (x27.toInt.toNat - 1) j wh.toInt.toNat) (fun j => ?_) ex exb ⟨ex1, ex2⟩ (fun z z0 z1 z2 => ?_) 37 x35 (by omega) (by omega) (by omega) (fun j hj => by omega)
              · show (_ ∧ _) ↔ _
                rw [r74, r75]
                have r86 : szM w19 = szM w17 := w19o.sz (by decide)
                rw [r86]
                have mvj : (c.toInt.toNat = j ∨ bt (rL w17 74 c.toInt.toNat) j = 1) ↔ (j = c.toInt.toNat ∨ eV V (V (8 + 4 * b.toInt.toNat + 0)) c.toInt.toNat j) := by
                  have u := lrA c.toInt.toNat j (by omega)
                  constructor
                  · rintro (v | v)
                    · exact Or.inl v.symm
                    · exact Or.inr (u.mp v).2
                  · rintro (v | v)
                    · exact Or.inl v.symm
                    · exact Or.inr (u.mpr ⟨hcl, v⟩)
                rw [mvj]
                constructor
                · rintro ⟨u1, u2⟩
                  have jl : ldN V j := by
                    rcases u1 with v | v
                    · rw [v]; exact lc
                    · exact v.1
                  have a1 := (wsT_C (by omega) zo lrB (x27.toInt.toNat - 1) (GW _ (by omega)) jl lw).mpr u2
                  refine ⟨u1, ?_⟩
                  apply Classical.byContradiction
                  intro z
                  have ws0 := wsT_b (r := rI w19 86) (y := rL w17 75 wh.toInt.toNat) (g := j) (t := wh.toInt.toNat) (sz := (szM w17).toNat) (rds_b J20.1) (by have := jl.1; omega) (by omega)
                  have a2 := (wsT_C (by omega) zo lrB (x27.toInt.toNat - 2) (GW _ (by omega)) jl lw).mp (by omega)
                  refine mn (x27.toInt.toNat - 1) (by omega) ?_
                  rw [show x27.toInt.toNat - 1 = x27.toInt.toNat - 2 + 1 by omega]
                  exact ⟨⟨lc, lw⟩, j, u1, a2⟩
                · rintro ⟨u1, u2⟩
                  have jl : ldN V j := by
                    rcases u1 with v | v
                    · rw [v]; exact lc
                    · exact v.1
                  exact ⟨u1, (wsT_C (by omega) zo lrB (x27.toInt.toNat - 1) (GW _ (by omega)) jl lw).mp (by omega)⟩
              · exact ⟨J20, z, rfl, Or.inr (Or.inr ⟨by omega, by omega, Or.inr ⟨x27.toInt.toNat, ⟨wn, mn⟩, Or.inr ⟨by omega, by omega, z.toInt.toNat, by omega, z1, z2⟩⟩⟩)⟩
            · --
              refine aw_step (f1 := (90, [some (.ref 65), some (.int b), some (.int c), some (.int th), some (.int wh), some (.int wa), some (.int x27), none], [(.int x27)])) (w1 := w19) rfl rfl ?_
              refine aw_ret (v := some (.int x27)) rfl rfl ?_
              first
                | exact ⟨J20, x27, rfl, Or.inr (Or.inr ⟨by omega, by omega, Or.inr ⟨x27.toInt.toNat, ⟨wn, mn⟩, Or.inl ⟨by omega, by omega⟩⟩⟩)⟩
                | exact ⟨J20, x27, rfl, Or.inr (Or.inr ⟨by omega, by omega, Or.inl ⟨by omega, Or.inr ⟨by
                    have := ((GW 0 (by omega) _ _ lc lw).mp (by omega)).1
                    omega, by omega⟩⟩⟩)⟩
                | exact ⟨J20, x27, rfl, Or.inr (Or.inr ⟨by omega, by omega, Or.inl ⟨by omega, Or.inl fun n z => by
                    have := (GW 1296 (by omega) _ _ lc lw).mpr (WG_1296 (by omega) z)
                    omega⟩⟩)⟩
          · --
            refine aw_step (f1 := (76, [some (.ref 65), some (.int b), some (.int c), some (.int th), some (.int wh), some (.int wa), some (.int x27), none], [(.int wa)])) (w1 := w19) rfl rfl ?_
            refine s_i (pc1 := 77) (ls1 := [some (.ref 65), some (.int b), some (.int c), some (.int th), some (.int wh), some (.int wa), some (.int x27), none]) (st1 := [(.int wa)]) rfl rfl fun x37 e38 => ?_
            have e38t : x37.toInt = 1 := by rw [e38]; rfl
            refine s_ic 83 80 rfl rfl rfl (fun (h39 : ¬ wa.toInt = x37.toInt) => ?_) (fun (h39 : ¬ (¬ wa.toInt = x37.toInt)) => ?_)
            · --
              have wn : WG V (V (8 + 4 * b.toInt.toNat + 0)) (V (8 + 4 * th.toInt.toNat + 0)) x27.toInt.toNat c.toInt.toNat wh.toInt.toNat := (GW x27.toInt.toNat (by omega) _ _ lc lw).mp (by omega)
              refine aw_step (f1 := (85, [some (.ref 65), some (.int b), some (.int c), some (.int th), some (.int wh), some (.int wa), some (.int x27), none], [(.int wa)])) (w1 := w19) rfl rfl ?_
              refine s_if 91 88 rfl rfl rfl (fun (h40 : ¬ wa.toInt = 0) => ?_) (fun (h40 : ¬ (¬ wa.toInt = 0)) => ?_)
              · --
                have wn1 := wn
                rw [show x27.toInt.toNat = x27.toInt.toNat - 1 + 1 by omega] at wn1
                obtain ⟨-, ex, ex1, ex2⟩ := wn1
                have exb : ex < 36 := by
                  rcases ex1 with v | v
                  · omega
                  · have := v.1.1; omega
                refine s_i (pc1 := 92) (ls1 := [some (.ref 65), some (.int b), some (.int c), some (.int th), some (.int wh), some (.int wa), some (.int x27), none]) (st1 := []) rfl rfl fun x41 e42 => ?_
                have e42t : x41.toInt = 0 := by rw [e42]; rfl
                refine aw_step (f1 := (94, [some (.ref 65), some (.int b), some (.int c), some (.int th), some (.int wh), some (.int wa), some (.int x27), some (.int x41)], [])) (w1 := w19) rfl rfl ?_
                refine f_grW J20 b c th wh wa x27 ⟨by omega, by omega⟩ ⟨by omega, by omega⟩ (fun j => (j = c.toInt.toNat ∨ eV V (V (8 + 4 * b.toInt.toNat + 0)) c.toInt.toNat j) ∧ CG V (V (8 + 4 * b.toInt.toNat + 0)) (V (8 + 4 * th.toInt.toNat + 0)) (x27.toInt.toNat - 1) j wh.toInt.toNat) (fun j => ?_) ex exb ⟨ex1, ex2⟩ (fun z z0 z1 z2 => ?_) 37 x41 (by omega) (by omega) (by omega) (fun j hj => by omega)
                · show (_ ∧ _) ↔ _
                  rw [r74, r75]
                  have r86 : szM w19 = szM w17 := w19o.sz (by decide)
                  rw [r86]
                  have mvj : (c.toInt.toNat = j ∨ bt (rL w17 74 c.toInt.toNat) j = 1) ↔ (j = c.toInt.toNat ∨ eV V (V (8 + 4 * b.toInt.toNat + 0)) c.toInt.toNat j) := by
                    have u := lrA c.toInt.toNat j (by omega)
                    constructor
                    · rintro (v | v)
                      · exact Or.inl v.symm
                      · exact Or.inr (u.mp v).2
                    · rintro (v | v)
                      · exact Or.inl v.symm
                      · exact Or.inr (u.mpr ⟨hcl, v⟩)
                  rw [mvj]
                  constructor
                  · rintro ⟨u1, u2⟩
                    have jl : ldN V j := by
                      rcases u1 with v | v
                      · rw [v]; exact lc
                      · exact v.1
                    have a1 := (wsT_C (by omega) zo lrB (x27.toInt.toNat - 1) (GW _ (by omega)) jl lw).mpr u2
                    refine ⟨u1, ?_⟩
                    apply Classical.byContradiction
                    intro z
                    have ws0 := wsT_b (r := rI w19 86) (y := rL w17 75 wh.toInt.toNat) (g := j) (t := wh.toInt.toNat) (sz := (szM w17).toNat) (rds_b J20.1) (by have := jl.1; omega) (by omega)
                    have a2 := (wsT_C (by omega) zo lrB (x27.toInt.toNat - 2) (GW _ (by omega)) jl lw).mp (by omega)
                    refine mn (x27.toInt.toNat - 1) (by omega) ?_
                    rw [show x27.toInt.toNat - 1 = x27.toInt.toNat - 2 + 1 by omega]
                    exact ⟨⟨lc, lw⟩, j, u1, a2⟩
                  · rintro ⟨u1, u2⟩
                    have jl : ldN V j := by
                      rcases u1 with v | v
                      · rw [v]; exact lc
                      · exact v.1
                    exact ⟨u1, (wsT_C (by omega) zo lrB (x27.toInt.toNat - 1) (GW _ (by omega)) jl lw).mp (by omega)⟩
                · exact ⟨J20, z, rfl, Or.inr (Or.inr ⟨by omega, by omega, Or.inr ⟨x27.toInt.toNat, ⟨wn, mn⟩, Or.inr ⟨by omega, by omega, z.toInt.toNat, by omega, z1, z2⟩⟩⟩)⟩
              · --
                refine aw_step (f1 := (90, [some (.ref 65), some (.int b), some (.int c), some (.int th), some (.int wh), some (.int wa), some (.int x27), none], [(.int x27)])) (w1 := w19) rfl rfl ?_
                refine aw_ret (v := some (.int x27)) rfl rfl ?_
                first
                  | exact ⟨J20, x27, rfl, Or.inr (Or.inr ⟨by omega, by omega, Or.inr ⟨x27.toInt.toNat, ⟨wn, mn⟩, Or.inl ⟨by omega, by omega⟩⟩⟩)⟩
                  | exact ⟨J20, x27, rfl, Or.inr (Or.inr ⟨by omega, by omega, Or.inl ⟨by omega, Or.inr ⟨by
                      have := ((GW 0 (by omega) _ _ lc lw).mp (by omega)).1
                      omega, by omega⟩⟩⟩)⟩
                  | exact ⟨J20, x27, rfl, Or.inr (Or.inr ⟨by omega, by omega, Or.inl ⟨by omega, Or.inl fun n z => by
                      have := (GW 1296 (by omega) _ _ lc lw).mpr (WG_1296 (by omega) z)
                      omega⟩⟩)⟩
            · --
              refine s_i (pc1 := 82) (ls1 := [some (.ref 65), some (.int b), some (.int c), some (.int th), some (.int wh), some (.int wa), some (.int x27), none]) (st1 := []) rfl rfl fun x43 e44 => ?_
              have e44t : x43.toInt = -6 := by rw [e44]; rfl
              refine aw_ret (v := some (.int x43)) rfl rfl ?_
              first
                | exact ⟨J20, x43, rfl, Or.inr (Or.inr ⟨by omega, by omega, Or.inr ⟨x27.toInt.toNat, ⟨wn, mn⟩, Or.inl ⟨by omega, by omega⟩⟩⟩)⟩
                | exact ⟨J20, x43, rfl, Or.inr (Or.inr ⟨by omega, by omega, Or.inl ⟨by omega, Or.inr ⟨by
                    have := ((GW 0 (by omega) _ _ lc lw).mp (by omega)).1
                    omega, by omega⟩⟩⟩)⟩
                | exact ⟨J20, x43, rfl, Or.inr (Or.inr ⟨by omega, by omega, Or.inl ⟨by omega, Or.inl fun n z => by
                    have := (GW 1296 (by omega) _ _ lc lw).mpr (WG_1296 (by omega) z)
                    omega⟩⟩)⟩
      · --
        refine s_i (pc1 := 33) (ls1 := [some (.ref 65), some (.int b), some (.int c), some (.int th), some (.int wh), some (.int wa), none, none]) (st1 := []) rfl rfl fun x45 e46 => ?_
        have e46t : x45.toInt = -2 := by rw [e46]; rfl
        refine aw_ret (v := some (.int x45)) rfl rfl ?_
        first
          | exact ⟨J, x45, rfl, Or.inl ⟨by omega, by have := hl0 c; have := hl0 wh; omega⟩⟩
          | exact ⟨J, x45, rfl, Or.inr (Or.inl ⟨by omega, by have := hl0 c; have := hl0 wh; omega, by omega⟩)⟩
    · --
      refine s_i (pc1 := 19) (ls1 := [some (.ref 65), some (.int b), some (.int c), some (.int th), some (.int wh), some (.int wa), none, none]) (st1 := []) rfl rfl fun x47 e48 => ?_
      have e48t : x47.toInt = -1 := by rw [e48]; rfl
      refine aw_ret (v := some (.int x47)) rfl rfl ?_
      first
        | exact ⟨J, x47, rfl, Or.inl ⟨by omega, by have := hl0 c; have := hl0 wh; omega⟩⟩
        | exact ⟨J, x47, rfl, Or.inr (Or.inl ⟨by omega, by have := hl0 c; have := hl0 wh; omega, by omega⟩)⟩
