/-! ===== a new land ===== -/
theorem n_mx {a b : Int32} : (if a < b then b else a).toInt = if a.toInt < b.toInt then b.toInt else a.toInt := by
  by_cases h : a.toInt < b.toInt
  · rw [if_pos h, if_pos (Int32.lt_iff_toInt_lt.mpr h)]
  · rw [if_neg h, if_neg (fun z => h (Int32.lt_iff_toInt_lt.mp z))]
theorem n_mn {a b : Int32} : (if b < a then b else a).toInt = if b.toInt < a.toInt then b.toInt else a.toInt := by
  by_cases h : b.toInt < a.toInt
  · rw [if_pos h, if_pos (Int32.lt_iff_toInt_lt.mpr h)]
  · rw [if_neg h, if_neg (fun z => h (Int32.lt_iff_toInt_lt.mp z))]
/-- the first that is no sea -/
noncomputable def frst (S : Nat → Int) (sz h : Int) : Prop := (0 ≤ h ∧ h < sz) ∧ S h.toNat ≠ 126 ∧ ∀ j : Nat, (j : Int) < h → S j = 126
theorem frst.uniq {S : Nat → Int} {sz h g : Int} (a : frst S sz h) (b : frst S sz g) : h = g := by
  obtain ⟨a1, a2, a3⟩ := a
  obtain ⟨b1, b2, b3⟩ := b
  rcases Int.lt_trichotomy h g with q | q | q
  · exact absurd (b3 h.toNat (by omega)) a2
  · exact q
  · exact absurd (a3 g.toNat (by omega)) b2
theorem RCs.mk {w1 : am_W} {V : Nat → Int} (f0 : fI w1 3 0 = V 0) (f1 : fI w1 3 1 = V 1) (f2 : fI w1 3 2 = V 2) (f3 : fI w1 3 3 = V 6) (f4 : fI w1 3 4 = V 7) (f6 : fLi w1 3 6 = V 3) (hr : ∀ r i, 4 ≤ r → r < 11 → i < 8 → i < vb r → rI w1 (3 + r) i = V (vx r i)) (hc : ∀ c : Nat, (c : Int) < szV V → rI w1 (3 + 1) c = V (40 + c) ∧ rI w1 (3 + 2) c = (c : Int) / V 1 ∧ rI w1 (3 + 3) c = (c : Int) % V 1) (hd : ∀ c : Nat, bt (fL w1 3 5) c = 1 ↔ (c : Int) < szV V ∧ V (40 + c) ≠ 126) : RCs w1 3 V := by
  refine ⟨fun j hj => ?_, hc, hd⟩
  by_cases a : rr j = 0
  · have k : ∀ j, j < 40 → ¬ rr j = 0 ∨ (j = 0 ∨ j = 1 ∨ j = 2 ∨ j = 3 ∨ j = 6 ∨ j = 7) := by decide +kernel
    rcases (k j hj).resolve_left (fun z => z a) with rfl | rfl | rfl | rfl | rfl | rfl
    · exact f0
    · exact f1
    · exact f2
    · exact f6
    · exact f3
    · exact f4
  · have h11 := rr_11 j hj
    have k := ((vx_inD j hj).resolve_left (fun z => z (by omega))).2
    unfold sc
    rw [if_neg a, hr _ _ (by omega) h11.1 (ri_8 j hj) k, ← vx_in j hj (rr j) h11.1 (ri j) (ri_8 j hj) (by omega) rfl rfl]
theorem q_leastL {d : Nat} {w : am_W} (x : Int64) : ∀ (m : Nat) (c : Int32), (36 - c.toInt).toNat < m → 0 ≤ c.toInt → c.toInt ≤ 36 → (∀ j : Nat, (j : Int) < c.toInt → bt (n64 x) j = 0) → aw none (d + 1) 106 (fun r w1 => w = w1 ∧ ∃ b : Int32, r = some (.int b) ∧ ((0 ≤ b.toInt ∧ b.toInt < 36 ∧ bt (n64 x) b.toInt.toNat = 1 ∧ ∀ j : Nat, (j : Int) < b.toInt → bt (n64 x) j = 0) ∨ (b.toInt = -6 ∧ ∀ j : Nat, j < 36 → bt (n64 x) j = 0))) (2, [some (.long x), none, some (.int c)], []) w := by
  intro m
  induction m with
  | zero => intro c p; omega
  | succ m ih =>
    intro c p1 p2 p3 F
    refine aw_step (f1 := (3, [some (.long x), none, some (.int c)], [(.int c)])) (w1 := w) rfl rfl ?_
    refine s_i (pc1 := 5) (ls1 := [some (.long x), none, some (.int c)]) (st1 := [(.int c)]) rfl rfl fun x1 e2 => ?_
    have e2t : x1.toInt = 36 := by rw [e2]; rfl
    refine s_ic 24 8 rfl rfl rfl (fun (h3 : x1.toInt ≤ c.toInt) => ?_) (fun (h3 : ¬ (x1.toInt ≤ c.toInt)) => ?_)
    · --
      refine s_i (pc1 := 26) (ls1 := [some (.long x), none, some (.int c)]) (st1 := []) rfl rfl fun x4 e5 => ?_
      have e5t : x4.toInt = -6 := by rw [e5]; rfl
      refine aw_ret (v := some (.int x4)) rfl rfl ?_
      first | exact ⟨rfl, x4, rfl, Or.inl ⟨by omega, by omega, by omega, fun j hj => F j (by omega)⟩⟩ | exact ⟨rfl, x4, rfl, Or.inr ⟨by omega, fun j hj => F j (by omega)⟩⟩
    · --
      refine aw_step (f1 := (9, [some (.long x), none, some (.int c)], [(.long x)])) (w1 := w) rfl rfl ?_
      refine aw_step (f1 := (10, [some (.long x), none, some (.int c)], [(.int c), (.long x)])) (w1 := w) rfl rfl ?_
      refine s_cs (z := 105) (as := [(.long x), (.int c)]) (st1 := []) 13 rfl rfl rfl rfl rfl rfl (Nat.le_of_ble_eq_true rfl) (Nat.le_of_ble_eq_true rfl) (Nat.le_of_ble_eq_true rfl) (q_hasC x c (by omega) (by omega)) ?_
      rintro _ _ ⟨rfl, x6, rfl, x6t⟩
      refine ⟨rfl, ?_⟩
      show aw none _ 106 _ (13, [some (.long x), none, some (.int c)], [(.int x6)]) w
      have x6l := bt_le (n64 x) c.toInt.toNat
      refine s_if 18 16 rfl rfl rfl (fun (h7 : x6.toInt = 0) => ?_) (fun (h7 : ¬ (x6.toInt = 0)) => ?_)
      · --
        refine aw_step (f1 := (21, [some (.long x), none, some (.int (c + Int32.ofInt 1))], [])) (w1 := w) rfl rfl ?_
        obtain ⟨x8, x8e⟩ : ∃ z, z = (c + Int32.ofInt 1) := ⟨_, rfl⟩
        have x8t : x8.toInt = c.toInt + (1) := by rw [x8e]; exact n_add (y := Int32.ofInt (1)) (by show _ ≤ _ + (1 : Int); omega) (by show _ + (1 : Int) ≤ _; omega)
        rw [← x8e]
        refine aw_step (f1 := (2, [some (.long x), none, some (.int x8)], [])) (w1 := w) rfl rfl ?_
        refine ih x8 (by omega) (by omega) (by omega) (fun j hj => ?_)
        by_cases q : j = c.toInt.toNat
        · rw [q]; omega
        · exact F j (by omega)
      · --
        refine aw_step (f1 := (17, [some (.long x), none, some (.int c)], [(.int c)])) (w1 := w) rfl rfl ?_
        refine aw_ret (v := some (.int c)) rfl rfl ?_
        first | exact ⟨rfl, c, rfl, Or.inl ⟨by omega, by omega, by omega, fun j hj => F j (by omega)⟩⟩ | exact ⟨rfl, c, rfl, Or.inr ⟨by omega, fun j hj => F j (by omega)⟩⟩
theorem q_leastOf {d : Nat} {w : am_W} (x : Int64) : aw none (d + 1) 106 (fun r w1 => w = w1 ∧ ∃ b : Int32, r = some (.int b) ∧ ((0 ≤ b.toInt ∧ b.toInt < 36 ∧ bt (n64 x) b.toInt.toNat = 1 ∧ ∀ j : Nat, (j : Int) < b.toInt → bt (n64 x) j = 0) ∨ (b.toInt = -6 ∧ ∀ j : Nat, j < 36 → bt (n64 x) j = 0))) (0, am_entry 106 [.long x], []) w := by
  show aw none (d + 1) 106 _ (0, [some (.long x), none, none], []) w
  refine s_i (pc1 := 1) (ls1 := [some (.long x), none, none]) (st1 := []) rfl rfl fun x1 e2 => ?_
  have e2t : x1.toInt = 0 := by rw [e2]; rfl
  refine aw_step (f1 := (2, [some (.long x), none, some (.int x1)], [])) (w1 := w) rfl rfl ?_
  exact q_leastL x 37 x1 (by omega) (by omega) (by omega) (fun j hj => by omega)
/-- what settle leaves -/
noncomputable def stlP (w w1 : am_W) : Prop := only [3] w w1 ∧ (∀ k, k ≠ 2 → k ≠ 3 → k ≠ 4 → k ≠ 5 → k ≠ 6 → am_fv w1 3 k = am_fv w 3 k) ∧ fI w1 3 3 = 0 ∧ fI w1 3 4 = 0 ∧ fLi w1 3 6 = 0 ∧ (∀ c : Nat, bt (fL w1 3 5) c = 1 ↔ (c : Int) < szC w ∧ rI w 4 c ≠ 126) ∧ frst (rI w 4) (szC w) (fI w1 3 2)
/-- dry, as far as it is told -/
noncomputable def dryI (w00 w : am_W) (i : Int) : Prop := only [3] w00 w ∧ (∀ k, k ≠ 5 → am_fv w 3 k = am_fv w00 3 k) ∧ ∀ c : Nat, bt (fL w 3 5) c = 1 ↔ (c : Int) < i ∧ rI w00 4 c ≠ 126
theorem dryI.sz {w00 w : am_W} {i : Int} (h : dryI w00 w i) : szC w = szC w00 := by unfold szC; rw [fI_eq (h.2.1 0 (by decide)), fI_eq (h.2.1 1 (by decide))]
theorem dryI.no {w00 w : am_W} {i : Int} (h : dryI w00 w i) (h0 : 0 ≤ i) (q : rI w00 4 i.toNat = 126) : dryI w00 w (i + 1) := by
  refine ⟨h.1, h.2.1, fun c => (h.2.2 c).trans ⟨fun z => ⟨by omega, z.2⟩, fun z => ⟨?_, z.2⟩⟩⟩
  by_cases e : c = i.toNat
  · subst e; exact absurd q z.2
  · omega
theorem dryI.ye {w00 w w1 : am_W} {i : Int} (h : dryI w00 w i) (h0 : 0 ≤ i) (q : rI w00 4 i.toNat ≠ 126) (f : only [3] w w1 ∧ (∀ k, k ≠ 5 → am_fv w1 3 k = am_fv w 3 k)) (e : fL w1 3 5 = fL w 3 5 ||| 2 ^ i.toNat) : dryI w00 w1 (i + 1) := by
  refine ⟨h.1.trans f.1, fun k hk => (f.2 k hk).trans (h.2.1 k hk), fun c => ?_⟩
  have hc := h.2.2 c
  have l1 := bt_le (fL w 3 5) c
  rw [e, bt_or, bt_pow]
  by_cases z : i.toNat = c
  · subst z
    rw [if_pos rfl]
    constructor
    · intro _; exact ⟨by omega, q⟩
    · intro _; omega
  · rw [if_neg z]
    constructor
    · intro g
      have := hc.mp (by omega)
      exact ⟨by omega, this.2⟩
    · intro g
      have := hc.mpr ⟨by omega, g.2⟩
      omega
theorem e_setL {d : Nat} {w00 : am_W} (I0 : ab_inv ab_TT ab_sets w00) (hd : ∃ c : Nat, (c : Int) < szC w00 ∧ rI w00 4 c ≠ 126) : ∀ (m : Nat) (w : am_W) (i : Int32), (szC w00 - i.toInt).toNat < m → 0 ≤ i.toInt → i.toInt ≤ szC w00 → ab_J ab_TT ab_sets ab_WR2 w00 w → dryI w00 w i.toInt → aw none (d + 2) 36 (fun r w1 => r = none ∧ ab_J ab_TT ab_sets ab_WR2 w00 w1 ∧ stlP w00 w1) (7, [some (.ref 3), some (.int i)], []) w := by
  have sz := szC_in I0
  intro m
  induction m with
  | zero => intro w i p; omega
  | succ m ih =>
    intro w i p1 p2 p3 J D
    have hs := D.sz
    refine aw_step (f1 := (8, [some (.ref 3), some (.int i)], [(.int i)])) (w1 := w) rfl rfl ?_
    refine aw_step (f1 := (9, [some (.ref 3), some (.int i)], [(.ref 3), (.int i)])) (w1 := w) rfl rfl ?_
    refine s_cv (z := 38) (p := 3) (as := []) (st1 := [(.int i)]) J 12 rfl rfl rfl rfl rfl rfl rfl rfl (Nat.le_of_ble_eq_true rfl) (Nat.le_of_ble_eq_true rfl) (q_size J.1) ?_
    rintro _ _ ⟨rfl, x1, rfl, x1t⟩
    refine ⟨rfl, ?_⟩
    show aw none _ 36 _ (12, [some (.ref 3), some (.int i)], [(.int x1), (.int i)]) w
    refine s_ic 45 15 rfl rfl rfl (fun (h2 : x1.toInt ≤ i.toInt) => ?_) (fun (h2 : ¬ (x1.toInt ≤ i.toInt)) => ?_)
    · --
      refine aw_step (f1 := (46, [some (.ref 3), some (.int i)], [(.ref 3)])) (w1 := w) rfl rfl ?_
      refine s_i (pc1 := 47) (ls1 := [some (.ref 3), some (.int i)]) (st1 := [(.ref 3)]) rfl rfl fun x3 e4 => ?_
      have e4t : x3.toInt = 0 := by rw [e4]; rfl
      refine aw_step (f1 := (48, [some (.ref 3), some (.int i)], [(.ref 3), (.int x3), (.ref 3)])) (w1 := w) rfl rfl ?_
      refine s_gl J 51 rfl rfl rfl rfl rfl rfl fun y5 y5a y5b y5f => ?_
      --
      refine s_cs (z := 106) (as := [(.long y5)]) (st1 := [(.int x3), (.ref 3)]) 54 rfl rfl rfl rfl rfl rfl (Nat.le_of_ble_eq_true rfl) (Nat.le_of_ble_eq_true rfl) (Nat.le_of_ble_eq_true rfl) (q_leastOf y5) ?_
      rintro _ _ ⟨rfl, x6, rfl, x6t⟩
      refine ⟨rfl, ?_⟩
      show aw none _ 36 _ (54, [some (.ref 3), some (.int i)], [(.int x6), (.int x3), (.ref 3)]) w
      --
      refine s_i (pc1 := 57) (ls1 := [some (.ref 3), some (.int i)]) (st1 := [(.ref 3)]) rfl rfl fun x7 e8 => ?_
      have e8t : x7.toInt = if x3.toInt < x6.toInt then x6.toInt else x3.toInt := by rw [e8]; exact n_mx
      have hz0 : 0 ≤ x7.toInt ∧ x7.toInt ≤ 35 := by
        have a1 := e8t
        have a2 := x6t
        split at a1 <;> omega
      refine s_pi J 60 rfl rfl rfl rfl rfl rfl rfl (by omega) (by omega) fun w9 J10 w9e => ?_
      have w9f := fv_st J.1 (p := 3) (kf := 2) rfl (by decide) w9e
      refine aw_step (f1 := (61, [some (.ref 3), some (.int i)], [(.ref 3)])) (w1 := w9) rfl rfl ?_
      refine s_l (pc1 := 62) (ls1 := [some (.ref 3), some (.int i)]) (st1 := [(.ref 3)]) rfl rfl fun y11 e12 => ?_
      have e12t : y11.toInt = 0 := by rw [e12]; rfl
      refine s_p J10 65 rfl rfl rfl rfl rfl rfl rfl rfl (Or.inr (Or.inl ⟨rfl, y11, rfl, by show (-9223372036854775808 : Int) ≤ _; first | omega | exact (ab_any64 _).1, by show _ ≤ (9223372036854775807 : Int); first | omega | exact (ab_any64 _).2⟩)) fun w13 J14 w13e => ?_
      have w13f := fv_st J10.1 (p := 3) (kf := 6) rfl (by decide) w13e
      refine aw_step (f1 := (66, [some (.ref 3), some (.int i)], [(.ref 3)])) (w1 := w13) rfl rfl ?_
      refine s_i (pc1 := 67) (ls1 := [some (.ref 3), some (.int i)]) (st1 := [(.ref 3)]) rfl rfl fun x15 e16 => ?_
      have e16t : x15.toInt = 0 := by rw [e16]; rfl
      refine s_pi J14 70 rfl rfl rfl rfl rfl rfl rfl (by omega) (by omega) fun w17 J18 w17e => ?_
      have w17f := fv_st J14.1 (p := 3) (kf := 3) rfl (by decide) w17e
      refine aw_step (f1 := (71, [some (.ref 3), some (.int i)], [(.ref 3)])) (w1 := w17) rfl rfl ?_
      refine s_i (pc1 := 72) (ls1 := [some (.ref 3), some (.int i)]) (st1 := [(.ref 3)]) rfl rfl fun x19 e20 => ?_
      have e20t : x19.toInt = 0 := by rw [e20]; rfl
      refine s_pi J18 75 rfl rfl rfl rfl rfl rfl rfl (by omega) (by omega) fun w21 J22 w21e => ?_
      have w21f := fv_st J18.1 (p := 3) (kf := 4) rfl (by decide) w21e
      refine aw_ret (v := none) rfl rfl ?_
      have hb := x6t
      have D2 := D.2.2
      rw [fL_of y5f] at D2
      have fr : frst (rI w00 4) (szC w00) x7.toInt := by
        obtain ⟨c0, hc0, hc1⟩ := hd
        rcases hb with hb | hb
        · have a := (D2 x6.toInt.toNat).mp hb.2.2.1
          have hv0 : x7.toInt = x6.toInt := by have := e8t; split at this <;> omega
          refine ⟨⟨by omega, by omega⟩, by rw [show x7.toInt.toNat = x6.toInt.toNat by omega]; exact a.2, fun j hj => ?_⟩
          apply Classical.byContradiction
          intro z
          have := (D2 j).mpr ⟨by omega, z⟩
          have := hb.2.2.2 j (by omega)
          omega
        · have := (D2 c0).mpr ⟨by omega, hc1⟩
          have := hb.2 c0 (by omega)
          omega
      have O1 := ((w9f.1.trans w13f.1).trans w17f.1).trans w21f.1
      have e5 : fL w21 3 5 = fL w 3 5 := by rw [fL_eq (w21f.2.2 5 (by decide)), fL_eq (w17f.2.2 5 (by decide)), fL_eq (w13f.2.2 5 (by decide)), fL_eq (w9f.2.2 5 (by decide))]
      refine ⟨rfl, J22, D.1.trans O1, fun k k2 k3 k4 k5 k6 => ?_, ?_, ?_, ?_, fun c => ?_, ?_⟩
      · rw [w21f.2.2 k k4, w17f.2.2 k k3, w13f.2.2 k k6, w9f.2.2 k k2]; exact D.2.1 k k5
      · rw [fI_eq (w21f.2.2 3 (by decide)), fI_of w17f.2.1]; omega
      · rw [fI_of w21f.2.1]; omega
      · rw [fLi_eq (w21f.2.2 6 (by decide)), fLi_eq (w17f.2.2 6 (by decide)), fLi_of w13f.2.1]; omega
      · rw [e5]
        have := D.2.2 c
        rw [show i.toInt = szC w00 by omega] at this
        exact this
      · rw [fI_eq (w21f.2.2 2 (by decide)), fI_eq (w17f.2.2 2 (by decide)), fI_eq (w13f.2.2 2 (by decide)), fI_of w9f.2.1]
        exact fr
    · --
      refine aw_step (f1 := (16, [some (.ref 3), some (.int i)], [(.ref 3)])) (w1 := w) rfl rfl ?_
      refine s_gr 4 J 19 rfl rfl rfl rfl rfl rfl ?_
      refine aw_step (f1 := (20, [some (.ref 3), some (.int i)], [(.int i), (.ref 4)])) (w1 := w) rfl rfl ?_
      refine s_ia J 21 rfl rfl rfl rfl (by omega) (by omega) fun x23 x23a x23b x23f => ?_
      have x23v : x23.toInt = rI w 4 i.toInt.toNat := by rw [← rI_of x23f]
      have sg : rI w00 4 i.toInt.toNat = x23.toInt := by rw [← D.1.rIe (p := 4) (by decide)]; exact rI_of x23f
      refine s_i (pc1 := 23) (ls1 := [some (.ref 3), some (.int i)]) (st1 := [(.int x23)]) rfl rfl fun x24 e25 => ?_
      have e25t : x24.toInt = 126 := by rw [e25]; rfl
      refine s_ic 39 26 rfl rfl rfl (fun (h26 : x23.toInt = x24.toInt) => ?_) (fun (h26 : ¬ (x23.toInt = x24.toInt)) => ?_)
      · --
        refine aw_step (f1 := (42, [some (.ref 3), some (.int (i + Int32.ofInt 1))], [])) (w1 := w) rfl rfl ?_
        obtain ⟨x27, x27e⟩ : ∃ z, z = (i + Int32.ofInt 1) := ⟨_, rfl⟩
        have x27t : x27.toInt = i.toInt + (1) := by rw [x27e]; exact n_add (y := Int32.ofInt (1)) (by show _ ≤ _ + (1 : Int); omega) (by show _ + (1 : Int) ≤ _; omega)
        rw [← x27e]
        refine aw_step (f1 := (7, [some (.ref 3), some (.int x27)], [])) (w1 := w) rfl rfl ?_
        exact ih w x27 (by omega) (by omega) (by omega) J (by rw [show x27.toInt = i.toInt + 1 by omega]; exact D.no (by omega) (by omega))
      · --
        refine aw_step (f1 := (27, [some (.ref 3), some (.int i)], [(.ref 3)])) (w1 := w) rfl rfl ?_
        refine aw_step (f1 := (28, [some (.ref 3), some (.int i)], [(.ref 3), (.ref 3)])) (w1 := w) rfl rfl ?_
        refine s_gl J 31 rfl rfl rfl rfl rfl rfl fun y28 y28a y28b y28f => ?_
        refine aw_step (f1 := (32, [some (.ref 3), some (.int i)], [(.int i), (.long y28), (.ref 3)])) (w1 := w) rfl rfl ?_
        refine s_cs (z := 104) (as := [(.int i)]) (st1 := [(.long y28), (.ref 3)]) 35 rfl rfl rfl rfl rfl rfl (Nat.le_of_ble_eq_true rfl) (Nat.le_of_ble_eq_true rfl) (Nat.le_of_ble_eq_true rfl) (q_bit i) ?_
        rintro _ _ ⟨rfl, y29, rfl, y29e⟩
        refine ⟨rfl, ?_⟩
        show aw none _ 36 _ (35, [some (.ref 3), some (.int i)], [(.long y29), (.long y28), (.ref 3)]) w
        --
        refine s_l (pc1 := 36) (ls1 := [some (.ref 3), some (.int i)]) (st1 := [(.ref 3)]) rfl rfl fun y30 e31 => ?_
        have e31 : y30 = y28 ||| y29 := e31
        refine s_p J 39 rfl rfl rfl rfl rfl rfl rfl rfl (Or.inr (Or.inl ⟨rfl, y30, rfl, by show (-9223372036854775808 : Int) ≤ _; first | omega | exact (ab_any64 _).1, by show _ ≤ (9223372036854775807 : Int); first | omega | exact (ab_any64 _).2⟩)) fun w32 J33 w32e => ?_
        have w32f := fv_st J.1 (p := 3) (kf := 5) rfl (by decide) w32e
        refine aw_step (f1 := (42, [some (.ref 3), some (.int (i + Int32.ofInt 1))], [])) (w1 := w32) rfl rfl ?_
        obtain ⟨x34, x34e⟩ : ∃ z, z = (i + Int32.ofInt 1) := ⟨_, rfl⟩
        have x34t : x34.toInt = i.toInt + (1) := by rw [x34e]; exact n_add (y := Int32.ofInt (1)) (by show _ ≤ _ + (1 : Int); omega) (by show _ + (1 : Int) ≤ _; omega)
        rw [← x34e]
        refine aw_step (f1 := (7, [some (.ref 3), some (.int x34)], [])) (w1 := w32) rfl rfl ?_
        have hb : n64 y29 = 2 ^ i.toInt.toNat := by rw [y29e]; exact n64_shl (by omega) (by omega) rfl
        exact ih w32 x34 (by omega) (by omega) (by omega) J33 (by rw [show x34.toInt = i.toInt + 1 by omega]; exact D.ye (by omega) (by omega) ⟨w32f.1, w32f.2.2⟩ (by rw [fL_of w32f.2.1, e31, n64_or, hb, fL_of y28f]))
theorem e_settle {d : Nat} {w : am_W} (hd : ∃ c : Nat, (c : Int) < szC w ∧ rI w 4 c ≠ 126) (I : ab_inv ab_TT ab_sets w) : aw none (d + 2) 36 (fun r w1 => r = none ∧ ab_J ab_TT ab_sets ab_WR2 w w1 ∧ stlP w w1) (0, am_entry 36 [.ref 3], []) w := by
  have J : ab_J ab_TT ab_sets ab_WR2 w w := ⟨I, ab_fr.rf⟩
  have sz := szC_in I
  show aw none (d + 2) 36 _ (0, [some (.ref 3), none], []) w
  refine aw_step (f1 := (1, [some (.ref 3), none], [(.ref 3)])) (w1 := w) rfl rfl ?_
  refine s_l (pc1 := 2) (ls1 := [some (.ref 3), none]) (st1 := [(.ref 3)]) rfl rfl fun y1 e2 => ?_
  have e2t : y1.toInt = 0 := by rw [e2]; rfl
  refine s_p J 5 rfl rfl rfl rfl rfl rfl rfl rfl (Or.inr (Or.inl ⟨rfl, y1, rfl, by show (-9223372036854775808 : Int) ≤ _; first | omega | exact (ab_any64 _).1, by show _ ≤ (9223372036854775807 : Int); first | omega | exact (ab_any64 _).2⟩)) fun w3 J4 w3e => ?_
  have w3f := fv_st J.1 (p := 3) (kf := 5) rfl (by decide) w3e
  refine s_i (pc1 := 6) (ls1 := [some (.ref 3), none]) (st1 := []) rfl rfl fun x5 e6 => ?_
  have e6t : x5.toInt = 0 := by rw [e6]; rfl
  refine aw_step (f1 := (7, [some (.ref 3), some (.int x5)], [])) (w1 := w3) rfl rfl ?_
  exact e_setL I hd 37 w3 x5 (by omega) (by omega) (by omega) J4 ⟨w3f.1, w3f.2.2, fun c => ⟨fun z => by rw [fL_of w3f.2.1, n64_z.mp (by omega), bt_z] at z; omega, fun z => by omega⟩⟩
/-- cells that are made plain so far -/
noncomputable def mpI (w00 w : am_W) (a b : Int) (m : Int) : Prop := only [3, 4, 5, 6] w00 w ∧ (∀ k, k ≠ 0 → k ≠ 1 → am_fv w 3 k = am_fv w00 3 k) ∧ fI w 3 0 = a ∧ fI w 3 1 = b ∧ ∀ j : Nat, (j : Int) < m → rI w 4 j = 46 ∧ rI w 5 j = (j : Int) / b ∧ rI w 6 j = (j : Int) % b
theorem dm_6 {r b c : Int} (h1 : 1 ≤ b) (h2 : b ≤ 6) (h3 : 0 ≤ c) (h4 : c < b) : (r * b + c) / b = r ∧ (r * b + c) % b = c := by
  have : b = 1 ∨ b = 2 ∨ b = 3 ∨ b = 4 ∨ b = 5 ∨ b = 6 := by omega
  rcases this with rfl | rfl | rfl | rfl | rfl | rfl <;> omega
theorem mu_6 {r b a : Int} (h1 : 1 ≤ b) (h2 : b ≤ 6) (h3 : 0 ≤ r) (h4 : r < a) (h5 : a ≤ 6) : 0 ≤ r * b ∧ r * b ≤ 30 ∧ (r + 1) * b = r * b + b ∧ r * b + b ≤ a * b := by
  have : b = 1 ∨ b = 2 ∨ b = 3 ∨ b = 4 ∨ b = 5 ∨ b = 6 := by omega
  rcases this with rfl | rfl | rfl | rfl | rfl | rfl <;> omega
theorem e_mpI {d : Nat} {Q : Option Value → am_W → Prop} {w00 : am_W} (a b r : Int32) (ha : 1 ≤ a.toInt ∧ a.toInt ≤ 6) (hb : 1 ≤ b.toInt ∧ b.toInt ≤ 6) (hr : 0 ≤ r.toInt ∧ r.toInt < a.toInt) (K : ∀ (w : am_W) (c : Int32) (o5x : Option Value), ab_J ab_TT ab_sets ab_WR2 w00 w → mpI w00 w a.toInt b.toInt (r.toInt * b.toInt + b.toInt) → aw none (d + 4) 34 Q (75, [some (.ref 3), some (.int a), some (.int b), some (.int r), some (.int c), o5x], []) w) : ∀ (m : Nat) (w : am_W) (c : Int32) (o5x : Option Value), (b.toInt - c.toInt).toNat < m → 0 ≤ c.toInt → c.toInt ≤ b.toInt → ab_J ab_TT ab_sets ab_WR2 w00 w → mpI w00 w a.toInt b.toInt (r.toInt * b.toInt + c.toInt) → aw none (d + 4) 34 Q (23, [some (.ref 3), some (.int a), some (.int b), some (.int r), some (.int c), o5x], []) w := by
  have mm := mu_6 hb.1 hb.2 hr.1 hr.2 ha.2
  intro m
  induction m with
  | zero => intro w c o5x p; omega
  | succ m ih =>
    intro w c o5x p1 p2 p3 J D
    have d0 := D.2.2.1
    have d1 := D.2.2.2.1
    refine aw_step (f1 := (25, [some (.ref 3), some (.int a), some (.int b), some (.int r), some (.int c), o5x], [(.int c)])) (w1 := w) rfl rfl ?_
    refine aw_step (f1 := (26, [some (.ref 3), some (.int a), some (.int b), some (.int r), some (.int c), o5x], [(.ref 3), (.int c)])) (w1 := w) rfl rfl ?_
    refine s_gi J 29 rfl rfl rfl rfl rfl rfl fun x1 x1a x1b x1f => ?_
    have x1v : x1.toInt = fI w 3 1 := by rw [← fI_of x1f]
    refine s_ic 75 32 rfl rfl rfl (fun (h2 : x1.toInt ≤ c.toInt) => ?_) (fun (h2 : ¬ (x1.toInt ≤ c.toInt)) => ?_)
    · --
      exact K w c _ J (by rw [show r.toInt * b.toInt + b.toInt = r.toInt * b.toInt + c.toInt by omega]; exact D)
    · --
      refine aw_step (f1 := (33, [some (.ref 3), some (.int a), some (.int b), some (.int r), some (.int c), o5x], [(.int r)])) (w1 := w) rfl rfl ?_
      refine aw_step (f1 := (34, [some (.ref 3), some (.int a), some (.int b), some (.int r), some (.int c), o5x], [(.ref 3), (.int r)])) (w1 := w) rfl rfl ?_
      refine s_gi J 37 rfl rfl rfl rfl rfl rfl fun x3 x3a x3b x3f => ?_
      have x3v : x3.toInt = fI w 3 1 := by rw [← fI_of x3f]
      --
      refine s_i (pc1 := 38) (ls1 := [some (.ref 3), some (.int a), some (.int b), some (.int r), some (.int c), o5x]) (st1 := []) rfl rfl fun x4 e5 => ?_
      have e5 : x4 = r * x3 := e5
      have m1 : x4.toInt = r.toInt * b.toInt := by rw [e5, n_mul (by rw [show x3.toInt = b.toInt by omega]; omega) (by rw [show x3.toInt = b.toInt by omega]; omega), show x3.toInt = b.toInt by omega]
      refine aw_step (f1 := (40, [some (.ref 3), some (.int a), some (.int b), some (.int r), some (.int c), o5x], [(.int c), (.int x4)])) (w1 := w) rfl rfl ?_
      refine s_i (pc1 := 41) (ls1 := [some (.ref 3), some (.int a), some (.int b), some (.int r), some (.int c), o5x]) (st1 := []) rfl rfl fun x6 e7 => ?_
      have e7 : x6 = x4 + c := e7
      have e7t : x6.toInt = x4.toInt + c.toInt := by rw [e7]; exact n_add (by omega) (by omega)
      refine aw_step (f1 := (43, [some (.ref 3), some (.int a), some (.int b), some (.int r), some (.int c), some (.int x6)], [])) (w1 := w) rfl rfl ?_
      refine aw_step (f1 := (44, [some (.ref 3), some (.int a), some (.int b), some (.int r), some (.int c), some (.int x6)], [(.ref 3)])) (w1 := w) rfl rfl ?_
      refine s_gr 4 J 47 rfl rfl rfl rfl rfl rfl ?_
      refine aw_step (f1 := (49, [some (.ref 3), some (.int a), some (.int b), some (.int r), some (.int c), some (.int x6)], [(.int x6), (.ref 4)])) (w1 := w) rfl rfl ?_
      refine s_i (pc1 := 51) (ls1 := [some (.ref 3), some (.int a), some (.int b), some (.int r), some (.int c), some (.int x6)]) (st1 := [(.int x6), (.ref 4)]) rfl rfl fun x8 e9 => ?_
      have e9t : x8.toInt = 46 := by rw [e9]; rfl
      refine s_is J 52 rfl rfl rfl rfl (by omega) (by omega) (by omega) (by omega) fun w10 J11 w10e => ?_
      have w10f := rI_st J.1 (p := 4) (j := x6.toInt.toNat) rfl (by omega) w10e
      refine aw_step (f1 := (53, [some (.ref 3), some (.int a), some (.int b), some (.int r), some (.int c), some (.int x6)], [(.ref 3)])) (w1 := w10) rfl rfl ?_
      refine s_gr 5 J11 56 rfl rfl rfl rfl rfl rfl ?_
      refine aw_step (f1 := (58, [some (.ref 3), some (.int a), some (.int b), some (.int r), some (.int c), some (.int x6)], [(.int x6), (.ref 5)])) (w1 := w10) rfl rfl ?_
      refine aw_step (f1 := (59, [some (.ref 3), some (.int a), some (.int b), some (.int r), some (.int c), some (.int x6)], [(.int r), (.int x6), (.ref 5)])) (w1 := w10) rfl rfl ?_
      refine s_is J11 60 rfl rfl rfl rfl (by omega) (by omega) (by omega) (by omega) fun w12 J13 w12e => ?_
      have w12f := rI_st J11.1 (p := 5) (j := x6.toInt.toNat) rfl (by omega) w12e
      refine aw_step (f1 := (61, [some (.ref 3), some (.int a), some (.int b), some (.int r), some (.int c), some (.int x6)], [(.ref 3)])) (w1 := w12) rfl rfl ?_
      refine s_gr 6 J13 64 rfl rfl rfl rfl rfl rfl ?_
      refine aw_step (f1 := (66, [some (.ref 3), some (.int a), some (.int b), some (.int r), some (.int c), some (.int x6)], [(.int x6), (.ref 6)])) (w1 := w12) rfl rfl ?_
      refine aw_step (f1 := (68, [some (.ref 3), some (.int a), some (.int b), some (.int r), some (.int c), some (.int x6)], [(.int c), (.int x6), (.ref 6)])) (w1 := w12) rfl rfl ?_
      refine s_is J13 69 rfl rfl rfl rfl (by omega) (by omega) (by omega) (by omega) fun w14 J15 w14e => ?_
      have w14f := rI_st J13.1 (p := 6) (j := x6.toInt.toNat) rfl (by omega) w14e
      refine aw_step (f1 := (72, [some (.ref 3), some (.int a), some (.int b), some (.int r), some (.int (c + Int32.ofInt 1)), some (.int x6)], [])) (w1 := w14) rfl rfl ?_
      obtain ⟨x16, x16e⟩ : ∃ z, z = (c + Int32.ofInt 1) := ⟨_, rfl⟩
      have x16t : x16.toInt = c.toInt + (1) := by rw [x16e]; exact n_add (y := Int32.ofInt (1)) (by show _ ≤ _ + (1 : Int); omega) (by show _ + (1 : Int) ≤ _; omega)
      rw [← x16e]
      refine aw_step (f1 := (23, [some (.ref 3), some (.int a), some (.int b), some (.int r), some (.int x16), some (.int x6)], [])) (w1 := w14) rfl rfl ?_
      have cx : x6.toInt = r.toInt * b.toInt + c.toInt := by omega
      have dv := dm_6 (r := r.toInt) hb.1 hb.2 (c := c.toInt) (by omega) (by omega)
      have O1 := ((w10f.1.sub (qs := [3, 4, 5, 6]) (by decide)).trans (w12f.1.sub (by decide))).trans (w14f.1.sub (by decide))
      refine ih w14 x16 _ (by omega) (by omega) (by omega) J15 ⟨D.1.trans O1, fun k k0 k1 => ?_, ?_, ?_, fun j hj => ?_⟩
      · rw [w14f.1.fv (by decide), w12f.1.fv (by decide), w10f.1.fv (by decide)]; exact D.2.1 k k0 k1
      · rw [w14f.1.fIe (by decide), w12f.1.fIe (by decide), w10f.1.fIe (by decide)]; exact D.2.2.1
      · rw [w14f.1.fIe (by decide), w12f.1.fIe (by decide), w10f.1.fIe (by decide)]; exact D.2.2.2.1
      · rw [w14f.1.rIe (p := 4) (by decide), w12f.1.rIe (p := 4) (by decide), w14f.1.rIe (p := 5) (by decide)]
        by_cases e : j = x6.toInt.toNat
        · rw [e, w10f.2.1, w12f.2.1, w14f.2.1, show ((x6.toInt.toNat : Nat) : Int) = r.toInt * b.toInt + c.toInt by omega, dv.1, dv.2]
          exact ⟨by omega, rfl, rfl⟩
        · have := D.2.2.2.2 j (by omega)
          rw [w10f.2.2 j e, w12f.2.2 j e, w10f.1.rIe (p := 5) (by decide), w14f.2.2 j e, w12f.1.rIe (p := 6) (by decide), w10f.1.rIe (p := 6) (by decide)]
          exact this
theorem e_mpO {d : Nat} {w00 : am_W} (a b : Int32) (ha : 1 ≤ a.toInt ∧ a.toInt ≤ 6) (hb : 1 ≤ b.toInt ∧ b.toInt ≤ 6) : ∀ (m : Nat) (w : am_W) (r : Int32) (o4x o5x : Option Value), (a.toInt - r.toInt).toNat < m → 0 ≤ r.toInt → r.toInt ≤ a.toInt → ab_J ab_TT ab_sets ab_WR2 w00 w → mpI w00 w a.toInt b.toInt (r.toInt * b.toInt) → aw none (d + 4) 34 (fun r w1 => r = none ∧ ab_J ab_TT ab_sets ab_WR2 w00 w1 ∧ ∃ w2, mpI w00 w2 a.toInt b.toInt (a.toInt * b.toInt) ∧ stlP w2 w1) (12, [some (.ref 3), some (.int a), some (.int b), some (.int r), o4x, o5x], []) w := by
  intro m
  induction m with
  | zero => intro w r o4x o5x p; omega
  | succ m ih =>
    intro w r o4x o5x p1 p2 p3 J D
    have d0 := D.2.2.1
    have d1 := D.2.2.2.1
    refine aw_step (f1 := (13, [some (.ref 3), some (.int a), some (.int b), some (.int r), o4x, o5x], [(.int r)])) (w1 := w) rfl rfl ?_
    refine aw_step (f1 := (14, [some (.ref 3), some (.int a), some (.int b), some (.int r), o4x, o5x], [(.ref 3), (.int r)])) (w1 := w) rfl rfl ?_
    refine s_gi J 17 rfl rfl rfl rfl rfl rfl fun x1 x1a x1b x1f => ?_
    have x1v : x1.toInt = fI w 3 0 := by rw [← fI_of x1f]
    refine s_ic 81 20 rfl rfl rfl (fun (h2 : x1.toInt ≤ r.toInt) => ?_) (fun (h2 : ¬ (x1.toInt ≤ r.toInt)) => ?_)
    · --
      have D : mpI w00 w a.toInt b.toInt (a.toInt * b.toInt) := by have q := D; rw [show r.toInt = a.toInt by omega] at q; exact q
      have s0 : szC w = a.toInt * b.toInt := by unfold szC; rw [d0, d1]
      have m1 := m6 ha.1 ha.2 hb.1 hb.2
      have HD : ∃ c : Nat, (c : Int) < szC w ∧ rI w 4 c ≠ 126 := ⟨0, by rw [s0]; omega, by rw [(D.2.2.2.2 0 (by omega)).1]; decide⟩
      refine aw_step (f1 := (82, [some (.ref 3), some (.int a), some (.int b), some (.int r), o4x, o5x], [(.ref 3)])) (w1 := w) rfl rfl ?_
      refine s_cv (z := 36) (p := 3) (as := []) (st1 := []) J 85 rfl rfl rfl rfl rfl rfl rfl rfl (Nat.le_of_ble_eq_true rfl) (Nat.le_of_ble_eq_true rfl) (e_settle HD J.1) ?_
      rintro _ w3 ⟨rfl, J4c, w3p⟩
      have J4 := J.trans J4c
      refine ⟨am_len2 J J4c, ?_⟩
      show aw none _ 34 _ (85, [some (.ref 3), some (.int a), some (.int b), some (.int r), o4x, o5x], []) w3
      refine aw_ret (v := none) rfl rfl ?_
      exact ⟨rfl, J4, w, D, w3p⟩
    · --
      refine s_i (pc1 := 21) (ls1 := [some (.ref 3), some (.int a), some (.int b), some (.int r), o4x, o5x]) (st1 := []) rfl rfl fun x5 e6 => ?_
      have e6t : x5.toInt = 0 := by rw [e6]; rfl
      refine aw_step (f1 := (23, [some (.ref 3), some (.int a), some (.int b), some (.int r), some (.int x5), o5x], [])) (w1 := w) rfl rfl ?_
      have mm := mu_6 hb.1 hb.2 (r := r.toInt) (a := a.toInt) (by omega) (by omega) ha.2
      refine e_mpI a b r ha hb ⟨by omega, by omega⟩ (fun wq cq oq Jq Dq => ?_) 7 w x5 _ (by omega) (by omega) (by omega) J (by rw [show r.toInt * b.toInt + x5.toInt = r.toInt * b.toInt by omega]; exact D)
      refine aw_step (f1 := (78, [some (.ref 3), some (.int a), some (.int b), some (.int (r + Int32.ofInt 1)), some (.int cq), oq], [])) (w1 := wq) rfl rfl ?_
      obtain ⟨zx1, zx1e⟩ : ∃ z, z = (r + Int32.ofInt 1) := ⟨_, rfl⟩
      have zx1t : zx1.toInt = r.toInt + (1) := by rw [zx1e]; exact n_add (y := Int32.ofInt (1)) (by show _ ≤ _ + (1 : Int); omega) (by show _ + (1 : Int) ≤ _; omega)
      rw [← zx1e]
      refine aw_step (f1 := (12, [some (.ref 3), some (.int a), some (.int b), some (.int zx1), some (.int cq), oq], [])) (w1 := wq) rfl rfl ?_
      exact ih wq zx1 _ _ (by omega) (by omega) (by omega) Jq (by rw [show zx1.toInt = r.toInt + 1 by omega, mm.2.2.1]; exact Dq)
theorem e_makePlain {d : Nat} {w : am_W} (a b : Int32) (ha : 1 ≤ a.toInt ∧ a.toInt ≤ 6) (hb : 1 ≤ b.toInt ∧ b.toInt ≤ 6) (I : ab_inv ab_TT ab_sets w) : aw none (d + 4) 34 (fun r w1 => r = none ∧ ab_J ab_TT ab_sets ab_WR2 w w1 ∧ ∃ w2, mpI w w2 a.toInt b.toInt (a.toInt * b.toInt) ∧ stlP w2 w1) (0, am_entry 34 [.ref 3, .int a, .int b], []) w := by
  have J : ab_J ab_TT ab_sets ab_WR2 w w := ⟨I, ab_fr.rf⟩
  show aw none (d + 4) 34 _ (0, [some (.ref 3), some (.int a), some (.int b), none, none, none], []) w
  refine aw_step (f1 := (1, [some (.ref 3), some (.int a), some (.int b), none, none, none], [(.ref 3)])) (w1 := w) rfl rfl ?_
  refine aw_step (f1 := (2, [some (.ref 3), some (.int a), some (.int b), none, none, none], [(.int a), (.ref 3)])) (w1 := w) rfl rfl ?_
  refine s_pi J 5 rfl rfl rfl rfl rfl rfl rfl (by omega) (by omega) fun w1 J2 w1e => ?_
  have w1f := fv_st J.1 (p := 3) (kf := 0) rfl (by decide) w1e
  refine aw_step (f1 := (6, [some (.ref 3), some (.int a), some (.int b), none, none, none], [(.ref 3)])) (w1 := w1) rfl rfl ?_
  refine aw_step (f1 := (7, [some (.ref 3), some (.int a), some (.int b), none, none, none], [(.int b), (.ref 3)])) (w1 := w1) rfl rfl ?_
  refine s_pi J2 10 rfl rfl rfl rfl rfl rfl rfl (by omega) (by omega) fun w3 J4 w3e => ?_
  have w3f := fv_st J2.1 (p := 3) (kf := 1) rfl (by decide) w3e
  refine s_i (pc1 := 11) (ls1 := [some (.ref 3), some (.int a), some (.int b), none, none, none]) (st1 := []) rfl rfl fun x5 e6 => ?_
  have e6t : x5.toInt = 0 := by rw [e6]; rfl
  refine aw_step (f1 := (12, [some (.ref 3), some (.int a), some (.int b), some (.int x5), none, none], [])) (w1 := w3) rfl rfl ?_
  have O1 := (w1f.1.sub (qs := [3, 4, 5, 6]) (by decide)).trans (w3f.1.sub (by decide))
  refine e_mpO a b ha hb 7 w3 x5 _ _ (by omega) (by omega) (by omega) J4 ⟨O1, fun k k0 k1 => ?_, ?_, ?_, fun j hj => ?_⟩
  · rw [w3f.2.2 k k1, w1f.2.2 k k0]
  · rw [fI_eq (w3f.2.2 0 (by decide)), fI_of w1f.2.1]
  · rw [fI_of w3f.2.1]
  · rw [show x5.toInt = 0 by omega] at hj; omega
noncomputable def plV (V : Nat → Int) (a b : Int) : Nat → Int := fun j => if j = 0 then a else if j = 1 then b else if j = 2 ∨ j = 3 ∨ j = 6 ∨ j = 7 then 0 else if 40 ≤ j then 46 else V j
theorem plV_n {V : Nat → Int} {a b : Int} {j : Nat} (h0 : j ≠ 0) (h1 : j ≠ 1) (h2 : j ≠ 2) (h3 : j ≠ 3) (h6 : j ≠ 6) (h7 : j ≠ 7) (h : j < 40) : plV V a b j = V j := by unfold plV; rw [if_neg h0, if_neg h1, if_neg (by omega), if_neg (by omega)]
theorem plV_c {V : Nat → Int} {a b : Int} {c : Nat} : plV V a b (40 + c) = 46 := by unfold plV; rw [if_neg (by omega), if_neg (by omega), if_neg (by omega), if_pos (by omega)]
noncomputable def ldP2 (V : Nat → Int) (a b z : Int) (V' : Nat → Int) : Prop := (z = -2 ∧ ((a < 1 ∨ 6 < a) ∨ b < 1 ∨ 6 < b) ∧ V' = V) ∨ (z = a * b ∧ (1 ≤ a ∧ a ≤ 6) ∧ (1 ≤ b ∧ b ≤ 6) ∧ V' = plV V a b)
theorem RCs.plain {w w1 w2 : am_W} {V : Nat → Int} {a b : Int} (R : RCs w 3 V) (ha : 1 ≤ a ∧ a ≤ 6) (hb : 1 ≤ b ∧ b ≤ 6) (M : mpI w w2 a b (a * b)) (S : stlP w2 w1) : RCs w1 3 (plV V a b) ∧ only cS w w1 ∧ szC w1 = a * b := by
  obtain ⟨m1, m2, m3, m4, m5⟩ := M
  obtain ⟨s1, s2, s3, s4, s5, s6, s7⟩ := S
  have mz := m6 ha.1 ha.2 hb.1 hb.2
  have z2 : szC w2 = a * b := by unfold szC; rw [m3, m4]
  have e0 : fI w1 3 0 = a := by rw [fI_eq (s2 0 (by decide) (by decide) (by decide) (by decide) (by decide))]; exact m3
  have e1 : fI w1 3 1 = b := by rw [fI_eq (s2 1 (by decide) (by decide) (by decide) (by decide) (by decide))]; exact m4
  have zV : szV (plV V a b) = a * b := rfl
  rw [z2] at s6 s7
  refine ⟨RCs.mk e0 e1 ?_ s3 s4 s5 (fun r i h4 h11 h8 hi => ?_) (fun c hc => ?_) (fun c => ?_), (m1.sub (by decide)).trans (s1.sub (by decide)), by unfold szC; rw [e0, e1]⟩
  · show _ = 0
    obtain ⟨q1, q2, q3⟩ := s7
    apply Classical.byContradiction
    intro z
    have := q3 0 (by omega)
    rw [(m5 0 (by omega)).1] at this
    exact absurd this (by decide)
  · obtain ⟨v1, v2, v3, v4⟩ := vx_ok r h11 i h8 h4 hi
    have k := vx_67 r h11 i h8 h4 hi
    rw [plV_n (by omega) (by omega) (by omega) (by omega) k.1 k.2 v4, s1.rIe (by simp only [List.mem_singleton]; omega), m1.rIe (by simp only [List.mem_cons, List.mem_nil_iff, or_false]; omega)]
    exact R.rv h4 h11 h8 hi
  · rw [zV] at hc
    rw [s1.rIe (by decide), s1.rIe (by decide), s1.rIe (by decide), plV_c]
    exact m5 c hc
  · rw [zV, plV_c, s6]
    constructor
    · intro q; exact ⟨q.1, by decide⟩
    · intro q; exact ⟨q.1, by rw [(m5 c q.1).1]; decide⟩
theorem e_land {d : Nat} {w : am_W} {V : Nat → Int} (R : RCs w 3 V) (a b : Int32) (I : ab_inv ab_TT ab_sets w) : aw none (d + 5) 60 (QC w (fun z V1 => ldP2 V a.toInt b.toInt z V1)) (0, am_entry 60 [.ref 0, .int a, .int b], []) w := by
  have J : ab_J ab_TT ab_sets ab_WR2 w w := ⟨I, ab_fr.rf⟩
  show aw none (d + 5) 60 _ (0, [some (.ref 0), some (.int a), some (.int b)], []) w
  refine aw_step (f1 := (1, [some (.ref 0), some (.int a), some (.int b)], [(.int a)])) (w1 := w) rfl rfl ?_
  refine s_i (pc1 := 2) (ls1 := [some (.ref 0), some (.int a), some (.int b)]) (st1 := [(.int a)]) rfl rfl fun x1 e2 => ?_
  have e2t : x1.toInt = 1 := by rw [e2]; rfl
  refine s_i (pc1 := 4) (ls1 := [some (.ref 0), some (.int a), some (.int b)]) (st1 := [(.int x1), (.int a)]) rfl rfl fun x3 e4 => ?_
  have e4t : x3.toInt = 6 := by rw [e4]; rfl
  refine s_cs (z := 102) (as := [(.int a), (.int x1), (.int x3)]) (st1 := []) 7 rfl rfl rfl rfl rfl rfl (Nat.le_of_ble_eq_true rfl) (Nat.le_of_ble_eq_true rfl) (Nat.le_of_ble_eq_true rfl) (q_within a x1 x3) ?_
  rintro _ _ ⟨rfl, x5, rfl, x5t⟩
  refine ⟨rfl, ?_⟩
  show aw none _ 60 _ (7, [some (.ref 0), some (.int a), some (.int b)], [(.int x5)]) w
  refine s_if 20 10 rfl rfl rfl (fun (h6 : x5.toInt = 0) => ?_) (fun (h6 : ¬ (x5.toInt = 0)) => ?_)
  · --
    refine s_i (pc1 := 22) (ls1 := [some (.ref 0), some (.int a), some (.int b)]) (st1 := []) rfl rfl fun x7 e8 => ?_
    have e8t : x7.toInt = -2 := by rw [e8]; rfl
    refine aw_ret (v := some (.int x7)) rfl rfl ?_
    exact ⟨J.1, only.rf, x7, rfl, _, R, Or.inl ⟨by omega, by omega, rfl⟩⟩
  · --
    refine aw_step (f1 := (11, [some (.ref 0), some (.int a), some (.int b)], [(.int b)])) (w1 := w) rfl rfl ?_
    refine s_i (pc1 := 12) (ls1 := [some (.ref 0), some (.int a), some (.int b)]) (st1 := [(.int b)]) rfl rfl fun x9 e10 => ?_
    have e10t : x9.toInt = 1 := by rw [e10]; rfl
    refine s_i (pc1 := 14) (ls1 := [some (.ref 0), some (.int a), some (.int b)]) (st1 := [(.int x9), (.int b)]) rfl rfl fun x11 e12 => ?_
    have e12t : x11.toInt = 6 := by rw [e12]; rfl
    refine s_cs (z := 102) (as := [(.int b), (.int x9), (.int x11)]) (st1 := []) 17 rfl rfl rfl rfl rfl rfl (Nat.le_of_ble_eq_true rfl) (Nat.le_of_ble_eq_true rfl) (Nat.le_of_ble_eq_true rfl) (q_within b x9 x11) ?_
    rintro _ _ ⟨rfl, x13, rfl, x13t⟩
    refine ⟨rfl, ?_⟩
    show aw none _ 60 _ (17, [some (.ref 0), some (.int a), some (.int b)], [(.int x13)]) w
    refine s_if 23 20 rfl rfl rfl (fun (h14 : ¬ x13.toInt = 0) => ?_) (fun (h14 : ¬ (¬ x13.toInt = 0)) => ?_)
    · --
      refine aw_step (f1 := (24, [some (.ref 0), some (.int a), some (.int b)], [(.ref 0)])) (w1 := w) rfl rfl ?_
      refine s_gr 3 J 27 rfl rfl rfl rfl rfl rfl ?_
      refine aw_step (f1 := (28, [some (.ref 0), some (.int a), some (.int b)], [(.int a), (.ref 3)])) (w1 := w) rfl rfl ?_
      refine aw_step (f1 := (29, [some (.ref 0), some (.int a), some (.int b)], [(.int b), (.int a), (.ref 3)])) (w1 := w) rfl rfl ?_
      refine s_cv (z := 34) (p := 3) (as := [(.int a), (.int b)]) (st1 := []) J 32 rfl rfl rfl rfl rfl rfl rfl rfl (Nat.le_of_ble_eq_true rfl) (Nat.le_of_ble_eq_true rfl) (e_makePlain a b ⟨by omega, by omega⟩ ⟨by omega, by omega⟩ J.1) ?_
      rintro _ w15 ⟨rfl, J16c, w15m, w15p, w15s⟩
      have J16 := J.trans J16c
      refine ⟨am_len2 J J16c, ?_⟩
      show aw none _ 60 _ (32, [some (.ref 0), some (.int a), some (.int b)], []) w15
      have w15R := R.plain ⟨by omega, by omega⟩ ⟨by omega, by omega⟩ w15p w15s
      refine aw_step (f1 := (33, [some (.ref 0), some (.int a), some (.int b)], [(.ref 0)])) (w1 := w15) rfl rfl ?_
      refine s_gr 3 J16 36 rfl rfl rfl rfl rfl rfl ?_
      refine s_cv (z := 38) (p := 3) (as := []) (st1 := []) J16 39 rfl rfl rfl rfl rfl rfl rfl rfl (Nat.le_of_ble_eq_true rfl) (Nat.le_of_ble_eq_true rfl) (q_size J16.1) ?_
      rintro _ _ ⟨rfl, x17, rfl, x17t⟩
      refine ⟨rfl, ?_⟩
      show aw none _ 60 _ (39, [some (.ref 0), some (.int a), some (.int b)], [(.int x17)]) w15
      refine aw_ret (v := some (.int x17)) rfl rfl ?_
      exact ⟨J16.1, w15R.2.1, x17, rfl, _, w15R.1, Or.inr ⟨by rw [x17t]; exact w15R.2.2, ⟨by omega, by omega⟩, ⟨by omega, by omega⟩, rfl⟩⟩
    · --
      refine s_i (pc1 := 22) (ls1 := [some (.ref 0), some (.int a), some (.int b)]) (st1 := []) rfl rfl fun x18 e19 => ?_
      have e19t : x18.toInt = -2 := by rw [e19]; rfl
      refine aw_ret (v := some (.int x18)) rfl rfl ?_
      exact ⟨J.1, only.rf, x18, rfl, _, R, Or.inl ⟨by omega, by omega, rfl⟩⟩
noncomputable def fgV (V : Nat → Int) (h : Int) : Nat → Int := upv (upv (upv (upv V 2 h) 3 0) 6 0) 7 0
theorem f_forgetAll {d : Nat} {w : am_W} {V : Nat → Int} (R : RMs w V) (h : Int32) (hh : 0 ≤ h.toInt ∧ h.toInt ≤ 35) (I : ab_inv ab_TT ab_sets w) : aw none d 112 (fun r w1 => r = none ∧ ab_J ab_TT ab_sets ab_WR2 w w1 ∧ RMs w1 (fgV V h.toInt) ∧ only [65] w w1 ∧ fI w1 65 16 = fI w 65 16) (0, am_entry 112 [.ref 65, .int h], []) w := by
  have J : ab_J ab_TT ab_sets ab_WR2 w w := ⟨I, ab_fr.rf⟩
  show aw none d 112 _ (0, [some (.ref 65), some (.int h)], []) w
  refine aw_step (f1 := (1, [some (.ref 65), some (.int h)], [(.ref 65)])) (w1 := w) rfl rfl ?_
  refine aw_step (f1 := (2, [some (.ref 65), some (.int h)], [(.int h), (.ref 65)])) (w1 := w) rfl rfl ?_
  refine s_pi J 5 rfl rfl rfl rfl rfl rfl rfl (by omega) (by omega) fun w1 J2 w1e => ?_
  have w1f := fv_st J.1 (p := 65) (kf := 3) rfl (by decide) w1e
  refine aw_step (f1 := (6, [some (.ref 65), some (.int h)], [(.ref 65)])) (w1 := w1) rfl rfl ?_
  refine s_l (pc1 := 7) (ls1 := [some (.ref 65), some (.int h)]) (st1 := [(.ref 65)]) rfl rfl fun y3 e4 => ?_
  have e4t : y3.toInt = 0 := by rw [e4]; rfl
  refine s_p J2 10 rfl rfl rfl rfl rfl rfl rfl rfl (Or.inr (Or.inl ⟨rfl, y3, rfl, by show (-9223372036854775808 : Int) ≤ _; first | omega | exact (ab_any64 _).1, by show _ ≤ (9223372036854775807 : Int); first | omega | exact (ab_any64 _).2⟩)) fun w5 J6 w5e => ?_
  have w5f := fv_st J2.1 (p := 65) (kf := 4) rfl (by decide) w5e
  refine aw_step (f1 := (11, [some (.ref 65), some (.int h)], [(.ref 65)])) (w1 := w5) rfl rfl ?_
  refine s_i (pc1 := 12) (ls1 := [some (.ref 65), some (.int h)]) (st1 := [(.ref 65)]) rfl rfl fun x7 e8 => ?_
  have e8t : x7.toInt = 0 := by rw [e8]; rfl
  refine s_pi J6 15 rfl rfl rfl rfl rfl rfl rfl (by omega) (by omega) fun w9 J10 w9e => ?_
  have w9f := fv_st J6.1 (p := 65) (kf := 9) rfl (by decide) w9e
  refine aw_step (f1 := (16, [some (.ref 65), some (.int h)], [(.ref 65)])) (w1 := w9) rfl rfl ?_
  refine s_i (pc1 := 17) (ls1 := [some (.ref 65), some (.int h)]) (st1 := [(.ref 65)]) rfl rfl fun x11 e12 => ?_
  have e12t : x11.toInt = 0 := by rw [e12]; rfl
  refine s_pi J10 20 rfl rfl rfl rfl rfl rfl rfl (by omega) (by omega) fun w13 J14 w13e => ?_
  have w13f := fv_st J10.1 (p := 65) (kf := 14) rfl (by decide) w13e
  refine aw_ret (v := none) rfl rfl ?_
  have R1 := R.put (q := 2) (by decide) (by decide) w1f
  have R2 := R1.putl w5f
  rw [show y3.toInt = 0 by omega] at R2
  have R3 := R2.put (q := 6) (by decide) (by decide) w9f
  rw [show x7.toInt = 0 by omega] at R3
  have R4 := R3.put (q := 7) (by decide) (by decide) w13f
  rw [show x11.toInt = 0 by omega] at R4
  exact ⟨rfl, J14, R4, ((w1f.1.trans w5f.1).trans w9f.1).trans w13f.1, by rw [fI_eq (w13f.2.2 16 (by decide)), fI_eq (w9f.2.2 16 (by decide)), fI_eq (w5f.2.2 16 (by decide)), fI_eq (w1f.2.2 16 (by decide))]⟩
theorem RMs.setc {w : am_W} {V V' : Nat → Int} (R : RMs w V) (h : ∀ j, j < 76 → V' j = V j) : RMs w V' := fun j hj => by rw [h j hj]; exact R j hj
noncomputable def spV (V : Nat → Int) (m : Int) : Nat → Int := fun j => if 40 ≤ j ∧ (j : Int) < 40 + m then 46 else V j
theorem spV_s {V : Nat → Int} {m : Int} (h : 0 ≤ m) : upv (spV V m) (40 + m.toNat) 46 = spV V (m + 1) := funext fun j => by
  unfold upv spV
  by_cases e : j = 40 + m.toNat
  · rw [if_pos e, if_pos (by omega)]
  · rw [if_neg e]
    by_cases q : 40 ≤ j ∧ (j : Int) < 40 + m
    · rw [if_pos q, if_pos (by omega)]
    · rw [if_neg q, if_neg (by omega)]
theorem f_spL {d : Nat} {w00 : am_W} {V : Nat → Int} (a b : Int32) : ∀ (m : Nat) (w : am_W) (i : Int32), (36 - i.toInt).toNat < m → 0 ≤ i.toInt → i.toInt ≤ 36 → ab_J ab_TT ab_sets ab_WR2 w00 w → RMs w (spV V i.toInt) → only mS w00 w → fI w 65 16 = fI w00 65 16 → aw none (d + 1) 111 (fun r w1 => r = none ∧ ab_J ab_TT ab_sets ab_WR2 w00 w1 ∧ RMs w1 (fgV (spV V 36) 0) ∧ only mS w00 w1 ∧ fI w1 65 16 = fI w00 65 16) (12, [some (.ref 65), some (.int a), some (.int b), some (.int i)], []) w := by
  intro m
  induction m with
  | zero => intro w i p; omega
  | succ m ih =>
    intro w i p1 p2 p3 J R O N
    refine aw_step (f1 := (13, [some (.ref 65), some (.int a), some (.int b), some (.int i)], [(.int i)])) (w1 := w) rfl rfl ?_
    refine s_i (pc1 := 15) (ls1 := [some (.ref 65), some (.int a), some (.int b), some (.int i)]) (st1 := [(.int i)]) rfl rfl fun x1 e2 => ?_
    have e2t : x1.toInt = 36 := by rw [e2]; rfl
    refine s_ic 32 18 rfl rfl rfl (fun (h3 : x1.toInt ≤ i.toInt) => ?_) (fun (h3 : ¬ (x1.toInt ≤ i.toInt)) => ?_)
    · --
      refine aw_step (f1 := (33, [some (.ref 65), some (.int a), some (.int b), some (.int i)], [(.ref 65)])) (w1 := w) rfl rfl ?_
      refine s_i (pc1 := 34) (ls1 := [some (.ref 65), some (.int a), some (.int b), some (.int i)]) (st1 := [(.ref 65)]) rfl rfl fun x4 e5 => ?_
      have e5t : x4.toInt = 0 := by rw [e5]; rfl
      have RX := R
      rw [show i.toInt = 36 by omega] at RX
      refine s_cv (z := 112) (p := 65) (as := [(.int x4)]) (st1 := []) J 37 rfl rfl rfl rfl rfl rfl rfl rfl (Nat.le_of_ble_eq_true rfl) (Nat.le_of_ble_eq_true rfl) (f_forgetAll RX x4 ⟨by omega, by omega⟩ J.1) ?_
      rintro _ w6 ⟨rfl, J7c, w6R, w6o, w6n⟩
      have J7 := J.trans J7c
      refine ⟨am_len2 J J7c, ?_⟩
      show aw none _ 111 _ (37, [some (.ref 65), some (.int a), some (.int b), some (.int i)], []) w6
      refine aw_ret (v := none) rfl rfl ?_
      rw [show x4.toInt = 0 by omega] at w6R
      exact ⟨rfl, J7, w6R, O.trans (w6o.sub (by decide)), by rw [w6n]; exact N⟩
    · --
      refine aw_step (f1 := (19, [some (.ref 65), some (.int a), some (.int b), some (.int i)], [(.ref 65)])) (w1 := w) rfl rfl ?_
      refine s_gr 66 J 22 rfl rfl rfl rfl rfl rfl ?_
      refine aw_step (f1 := (23, [some (.ref 65), some (.int a), some (.int b), some (.int i)], [(.int i), (.ref 66)])) (w1 := w) rfl rfl ?_
      refine s_i (pc1 := 25) (ls1 := [some (.ref 65), some (.int a), some (.int b), some (.int i)]) (st1 := [(.int i), (.ref 66)]) rfl rfl fun x8 e9 => ?_
      have e9t : x8.toInt = 46 := by rw [e9]; rfl
      refine s_is J 26 rfl rfl rfl rfl (by omega) (by omega) (by omega) (by omega) fun w10 J11 w10e => ?_
      have w10f := rI_st J.1 (p := 66) (j := i.toInt.toNat) rfl (by omega) w10e
      refine aw_step (f1 := (29, [some (.ref 65), some (.int a), some (.int b), some (.int (i + Int32.ofInt 1))], [])) (w1 := w10) rfl rfl ?_
      obtain ⟨x12, x12e⟩ : ∃ z, z = (i + Int32.ofInt 1) := ⟨_, rfl⟩
      have x12t : x12.toInt = i.toInt + (1) := by rw [x12e]; exact n_add (y := Int32.ofInt (1)) (by show _ ≤ _ + (1 : Int); omega) (by show _ + (1 : Int) ≤ _; omega)
      rw [← x12e]
      refine aw_step (f1 := (12, [some (.ref 65), some (.int a), some (.int b), some (.int x12)], [])) (w1 := w10) rfl rfl ?_
      have R1 := R.rowc (i := i.toInt.toNat) (by omega) w10f
      rw [show x8.toInt = 46 by omega, spV_s (by omega)] at R1
      exact ih w10 x12 (by omega) (by omega) (by omega) J11 (by rw [show x12.toInt = i.toInt + 1 by omega]; exact R1) (O.trans (w10f.1.sub (by decide))) (by rw [w10f.1.fIe (by decide)]; exact N)
theorem f_spread {d : Nat} {w : am_W} {V : Nat → Int} (R : RMs w V) (a b : Int32) (ha : 1 ≤ a.toInt ∧ a.toInt ≤ 6) (hb : 1 ≤ b.toInt ∧ b.toInt ≤ 6) (I : ab_inv ab_TT ab_sets w) : aw none (d + 1) 111 (fun r w1 => r = none ∧ ab_J ab_TT ab_sets ab_WR2 w w1 ∧ RMs w1 (plV V a.toInt b.toInt) ∧ only mS w w1 ∧ fI w1 65 16 = fI w 65 16) (0, am_entry 111 [.ref 65, .int a, .int b], []) w := by
  have J : ab_J ab_TT ab_sets ab_WR2 w w := ⟨I, ab_fr.rf⟩
  show aw none (d + 1) 111 _ (0, [some (.ref 65), some (.int a), some (.int b), none], []) w
  refine aw_step (f1 := (1, [some (.ref 65), some (.int a), some (.int b), none], [(.ref 65)])) (w1 := w) rfl rfl ?_
  refine aw_step (f1 := (2, [some (.ref 65), some (.int a), some (.int b), none], [(.int a), (.ref 65)])) (w1 := w) rfl rfl ?_
  refine s_pi J 5 rfl rfl rfl rfl rfl rfl rfl (by omega) (by omega) fun w1 J2 w1e => ?_
  have w1f := fv_st J.1 (p := 65) (kf := 0) rfl (by decide) w1e
  refine aw_step (f1 := (6, [some (.ref 65), some (.int a), some (.int b), none], [(.ref 65)])) (w1 := w1) rfl rfl ?_
  refine aw_step (f1 := (7, [some (.ref 65), some (.int a), some (.int b), none], [(.int b), (.ref 65)])) (w1 := w1) rfl rfl ?_
  refine s_pi J2 10 rfl rfl rfl rfl rfl rfl rfl (by omega) (by omega) fun w3 J4 w3e => ?_
  have w3f := fv_st J2.1 (p := 65) (kf := 1) rfl (by decide) w3e
  refine s_i (pc1 := 11) (ls1 := [some (.ref 65), some (.int a), some (.int b), none]) (st1 := []) rfl rfl fun x5 e6 => ?_
  have e6t : x5.toInt = 0 := by rw [e6]; rfl
  refine aw_step (f1 := (12, [some (.ref 65), some (.int a), some (.int b), some (.int x5)], [])) (w1 := w3) rfl rfl ?_
  have R1 := R.put (q := 0) (by decide) (by decide) w1f
  have R2 := R1.put (q := 1) (by decide) (by decide) w3f
  refine (f_spL (V := upv (upv V 0 a.toInt) 1 b.toInt) a b 37 w3 x5 (by omega) (by omega) (by omega) J4 (R2.setc fun j hj => by unfold spV; rw [if_neg (by omega)]) ((w1f.1.sub (by decide)).trans (w3f.1.sub (by decide))) (by rw [fI_eq (w3f.2.2 16 (by decide)), fI_eq (w1f.2.2 16 (by decide))])).mono ?_
  rintro r w1 ⟨q1, q2, q3, q4, q5⟩
  refine ⟨q1, q2, q3.setc fun j hj => ?_, q4, q5⟩
  unfold plV fgV spV upv
  by_cases a7 : j = 7
  · rw [if_neg (by omega), if_neg (by omega), if_pos (by omega), if_pos a7]
  · rw [if_neg a7]
    by_cases a6 : j = 6
    · rw [if_neg (by omega), if_neg (by omega), if_pos (by omega), if_pos a6]
    · rw [if_neg a6]
      by_cases a3 : j = 3
      · rw [if_neg (by omega), if_neg (by omega), if_pos (by omega), if_pos a3]
      · rw [if_neg a3]
        by_cases a2 : j = 2
        · rw [if_neg (by omega), if_neg (by omega), if_pos (by omega), if_pos a2]
        · rw [if_neg a2]
          show _ = (if 40 ≤ j ∧ (j : Int) < 40 + 36 then 46 else if j = 1 then b.toInt else if j = 0 then a.toInt else V j)
          by_cases a40 : 40 ≤ j
          · rw [if_neg (by omega), if_neg (by omega), if_neg (by omega), if_pos a40, if_pos (by omega)]
          · rw [if_neg (show ¬ (40 ≤ j ∧ (j : Int) < 40 + 36) by omega)]
            by_cases a1 : j = 1
            · rw [if_neg (by omega), if_pos a1, if_pos a1]
            · rw [if_neg a1, if_neg a1, if_neg (show ¬ (j = 2 ∨ j = 3 ∨ j = 6 ∨ j = 7) by omega), if_neg a40]
theorem f_land {d : Nat} {w : am_W} {V : Nat → Int} (R : RMs w V) (a b : Int32) (I : ab_inv ab_TT ab_sets w) : aw none (d + 3) 118 (QM w (fun z V1 => ldP2 V a.toInt b.toInt z V1)) (0, am_entry 118 [.ref 65, .int a, .int b], []) w := by
  have J : ab_J ab_TT ab_sets ab_WR2 w w := ⟨I, ab_fr.rf⟩
  show aw none (d + 3) 118 _ (0, [some (.ref 65), some (.int a), some (.int b)], []) w
  refine aw_step (f1 := (1, [some (.ref 65), some (.int a), some (.int b)], [(.int a)])) (w1 := w) rfl rfl ?_
  refine s_l (pc1 := 2) (ls1 := [some (.ref 65), some (.int a), some (.int b)]) (st1 := []) rfl rfl fun y1 e2 => ?_
  have e2t : y1.toInt = a.toInt := by rw [e2]; exact Int32.toInt_toInt64 a
  refine s_l (pc1 := 3) (ls1 := [some (.ref 65), some (.int a), some (.int b)]) (st1 := [(.long y1)]) rfl rfl fun y3 e4 => ?_
  have e4t : y3.toInt = 1 := by rw [e4]; rfl
  refine s_l (pc1 := 6) (ls1 := [some (.ref 65), some (.int a), some (.int b)]) (st1 := [(.long y3), (.long y1)]) rfl rfl fun y5 e6 => ?_
  have e6t : y5.toInt = 6 := by rw [e6]; rfl
  refine s_cs (z := 108) (as := [(.long y1), (.long y3), (.long y5)]) (st1 := []) 9 rfl rfl rfl rfl rfl rfl (Nat.le_of_ble_eq_true rfl) (Nat.le_of_ble_eq_true rfl) (Nat.le_of_ble_eq_true rfl) (q_in2 y1 y3 y5) ?_
  rintro _ _ ⟨rfl, x7, rfl, x7t⟩
  refine ⟨rfl, ?_⟩
  show aw none _ 118 _ (9, [some (.ref 65), some (.int a), some (.int b)], [(.int x7)]) w
  refine s_if 24 12 rfl rfl rfl (fun (h8 : x7.toInt = 0) => ?_) (fun (h8 : ¬ (x7.toInt = 0)) => ?_)
  · --
    refine s_i (pc1 := 26) (ls1 := [some (.ref 65), some (.int a), some (.int b)]) (st1 := []) rfl rfl fun x9 e10 => ?_
    have e10t : x9.toInt = -2 := by rw [e10]; rfl
    refine aw_ret (v := some (.int x9)) rfl rfl ?_
    exact ⟨J.1, only.rf, rfl, x9, rfl, _, R, Or.inl ⟨by omega, by omega, rfl⟩⟩
  · --
    refine aw_step (f1 := (13, [some (.ref 65), some (.int a), some (.int b)], [(.int b)])) (w1 := w) rfl rfl ?_
    refine s_l (pc1 := 14) (ls1 := [some (.ref 65), some (.int a), some (.int b)]) (st1 := []) rfl rfl fun y11 e12 => ?_
    have e12t : y11.toInt = b.toInt := by rw [e12]; exact Int32.toInt_toInt64 b
    refine s_l (pc1 := 15) (ls1 := [some (.ref 65), some (.int a), some (.int b)]) (st1 := [(.long y11)]) rfl rfl fun y13 e14 => ?_
    have e14t : y13.toInt = 1 := by rw [e14]; rfl
    refine s_l (pc1 := 18) (ls1 := [some (.ref 65), some (.int a), some (.int b)]) (st1 := [(.long y13), (.long y11)]) rfl rfl fun y15 e16 => ?_
    have e16t : y15.toInt = 6 := by rw [e16]; rfl
    refine s_cs (z := 108) (as := [(.long y11), (.long y13), (.long y15)]) (st1 := []) 21 rfl rfl rfl rfl rfl rfl (Nat.le_of_ble_eq_true rfl) (Nat.le_of_ble_eq_true rfl) (Nat.le_of_ble_eq_true rfl) (q_in2 y11 y13 y15) ?_
    rintro _ _ ⟨rfl, x17, rfl, x17t⟩
    refine ⟨rfl, ?_⟩
    show aw none _ 118 _ (21, [some (.ref 65), some (.int a), some (.int b)], [(.int x17)]) w
    refine s_if 27 24 rfl rfl rfl (fun (h18 : ¬ x17.toInt = 0) => ?_) (fun (h18 : ¬ (¬ x17.toInt = 0)) => ?_)
    · --
      refine aw_step (f1 := (28, [some (.ref 65), some (.int a), some (.int b)], [(.ref 65)])) (w1 := w) rfl rfl ?_
      refine aw_step (f1 := (29, [some (.ref 65), some (.int a), some (.int b)], [(.int a), (.ref 65)])) (w1 := w) rfl rfl ?_
      refine aw_step (f1 := (30, [some (.ref 65), some (.int a), some (.int b)], [(.int b), (.int a), (.ref 65)])) (w1 := w) rfl rfl ?_
      refine s_cv (z := 111) (p := 65) (as := [(.int a), (.int b)]) (st1 := []) J 33 rfl rfl rfl rfl rfl rfl rfl rfl (Nat.le_of_ble_eq_true rfl) (Nat.le_of_ble_eq_true rfl) (f_spread R a b ⟨by omega, by omega⟩ ⟨by omega, by omega⟩ J.1) ?_
      rintro _ w19 ⟨rfl, J20c, w19R, w19o, w19n⟩
      have J20 := J.trans J20c
      refine ⟨am_len2 J J20c, ?_⟩
      show aw none _ 118 _ (33, [some (.ref 65), some (.int a), some (.int b)], []) w19
      refine aw_step (f1 := (34, [some (.ref 65), some (.int a), some (.int b)], [(.ref 65)])) (w1 := w19) rfl rfl ?_
      refine s_cv (z := 113) (p := 65) (as := []) (st1 := []) J20 37 rfl rfl rfl rfl rfl rfl rfl rfl (Nat.le_of_ble_eq_true rfl) (Nat.le_of_ble_eq_true rfl) (q_cells J20.1) ?_
      rintro _ _ ⟨rfl, x21, rfl, x21t⟩
      refine ⟨rfl, ?_⟩
      show aw none _ 118 _ (37, [some (.ref 65), some (.int a), some (.int b)], [(.int x21)]) w19
      have x21s := szM_in J20.1
      refine aw_ret (v := some (.int x21)) rfl rfl ?_
      exact ⟨J20.1, w19o, w19n, x21, rfl, _, w19R, Or.inr ⟨by rw [x21t]; exact w19R.sz, ⟨by omega, by omega⟩, ⟨by omega, by omega⟩, rfl⟩⟩
    · --
      refine s_i (pc1 := 26) (ls1 := [some (.ref 65), some (.int a), some (.int b)]) (st1 := []) rfl rfl fun x22 e23 => ?_
      have e23t : x22.toInt = -2 := by rw [e23]; rfl
      refine aw_ret (v := some (.int x22)) rfl rfl ?_
      exact ⟨J.1, only.rf, rfl, x22, rfl, _, R, Or.inl ⟨by omega, by omega, rfl⟩⟩
