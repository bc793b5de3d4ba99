/-! ===== errands of the class ===== -/
set_option maxRecDepth 100000 in
theorem t_pq : ∀ x, x < 32 → ∀ p, p < 5 → (Int32.ofNat x ||| (1 <<< (Int32.ofNat p &&& 31))).toInt = ((x ||| 2 ^ p : Nat) : Int) ∧ ((Int32.ofNat x >>> (Int32.ofNat p &&& 31)) &&& 1).toInt = ((bt x p : Nat) : Int) ∧ (x ||| 2 ^ p) < 32 := by decide +kernel
theorem i_pq {x p : Int32} (h0 : 0 ≤ x.toInt) (h1 : x.toInt < 32) (p0 : 0 ≤ p.toInt) (p1 : p.toInt < 5) : (x ||| (1 <<< (p &&& 31))).toInt = ((x.toInt.toNat ||| 2 ^ p.toInt.toNat : Nat) : Int) ∧ ((x >>> (p &&& 31)) &&& 1).toInt = bt x.toInt.toNat p.toInt.toNat ∧ (x.toInt.toNat ||| 2 ^ p.toInt.toNat) < 32 := by
  have h := t_pq x.toInt.toNat (by omega) p.toInt.toNat (by omega)
  rw [← i32_nat h0, ← i32_nat p0] at h
  exact h
theorem usd_32 {m : Nat} {g : Nat → Nat} {n : Nat} (hm : m ≤ 5) (h : ∀ i, i < n → g i < m) : usd g n < 32 := by
  have : usd g n < 2 ^ 5 := bt_lt fun j hj => by
    obtain ⟨i, i1, i2⟩ := usd_b.mp hj
    have := h i i1
    omega
  exact this
theorem usd_cg {g h : Nat → Nat} : ∀ {n : Nat}, (∀ i, i < n → g i = h i) → usd g n = usd h n
  | 0, _ => rfl
  | n + 1, e => by
    show usd g n ||| 2 ^ g n = usd h n ||| 2 ^ h n
    rw [usd_cg (n := n) (fun i hi => e i (by omega)), e n (by omega)]
/-- a digit more -/
noncomputable def ext (g : Nat → Nat) (D k : Nat) : Nat → Nat := fun i => if i = D then k else g i
theorem ext_lo {g : Nat → Nat} {D k i : Nat} (h : i < D) : ext g D k i = g i := by unfold ext; rw [if_neg (by omega)]
theorem ext_at {g : Nat → Nat} {D k : Nat} : ext g D k D = k := by unfold ext; rw [if_pos rfl]
theorem vl_ext {m : Nat} {g : Nat → Nat} {D k : Nat} : vl m (ext g D k) (D + 1) = vl m g D * m + k := by
  show vl m (ext g D k) D * m + ext g D k D = _
  rw [ext_at, vl_cg (fun i hi => ext_lo hi)]
theorem usd_ext {g : Nat → Nat} {D k : Nat} : usd (ext g D k) (D + 1) = usd g D ||| 2 ^ k := by
  show usd (ext g D k) D ||| 2 ^ ext g D k D = _
  rw [ext_at, usd_cg (fun i hi => ext_lo hi)]
theorem ss_ext {m : Nat} {bw : Nat → Int} {g : Nat → Nat} {D k : Nat} : ss m bw (ext g D k) (D + 1) = ss m bw g D + bw (6 * pvo m g D + k) := by
  show ss m bw (ext g D k) D + bw (6 * pvo m (ext g D k) D + ext g D k D) = _
  rw [ext_at, ss_cg (fun i hi => ext_lo hi), pvo_cg (fun i hi => ext_lo hi)]
theorem pow_st {m D : Nat} (h : D < m) : m ^ (m - D) = m ^ (m - D - 1) * m := by
  have e : m - D = (m - D - 1) + 1 := by omega
  calc m ^ (m - D) = m ^ ((m - D - 1) + 1) := by rw [← e]
    _ = _ := Nat.pow_succ ..
theorem mul_st {a m M k : Nat} (hk : k < m) : (a * m + k) * M + M = (a * m + (k + 1)) * M ∧ (a * m + m) * M = (a + 1) * (M * m) ∧ (a * m + 0) * M = a * (M * m) := by
  refine ⟨?_, ?_, ?_⟩
  · rw [← Nat.add_assoc, Nat.add_mul _ 1 M, Nat.one_mul]
  · rw [← Nat.succ_mul, Nat.mul_assoc, Nat.mul_comm m M]
  · rw [Nat.add_zero, Nat.mul_assoc, Nat.mul_comm m M]
/-- a block whose digit has come before holds no order -/
theorem blk_no {m : Nat} {g h : Nat → Nat} {D k : Nat} (hD : D < m) (hg : ∀ i, i < D → g i < m) (hk : k < m) (q : bt (usd g D) k = 1) (p : pmV m h) (l1 : (vl m g D * m + k) * m ^ (m - D - 1) ≤ vl m h m) (l2 : vl m h m < (vl m g D * m + (k + 1)) * m ^ (m - D - 1)) : False := by
  obtain ⟨i, i1, i2⟩ := usd_b.mp q
  have e := vl_pre (m := m) (g := h) (d := D + 1) (e := m - D - 1) (x := vl m g D * m + k) (fun j hj => p.1 j (by omega)) (by rw [show D + 1 + (m - D - 1) = m by omega]; exact l1) (by rw [show D + 1 + (m - D - 1) = m by omega, Nat.add_assoc]; exact l2)
  rw [← vl_ext] at e
  have u := vl_un (fun j hj => p.1 j (by omega)) (fun j hj => by
    by_cases z : j = D
    · rw [z, ext_at]; exact hk
    · rw [ext_lo (by omega)]; exact hg j (by omega)) e
  have a := u i (by omega)
  have b := u D (by omega)
  rw [ext_lo i1, i2] at a
  rw [ext_at] at b
  exact pm_inj p i1 hD (by rw [a, b])
theorem e_keep {d : Nat} {w : am_W} (s : Int32) (I : ab_inv ab_TT ab_sets w) : aw none (d + 1) 32 (fun r w1 => r = none ∧ ab_J ab_TT ab_sets ab_WR w w1 ∧ only [25, 27] w w1 ∧ fI w1 25 2 = fI w 25 2 ∧ (((fI w 25 3 = -6 ∨ s.toInt < fI w 25 3) ∧ fI w1 25 3 = s.toInt ∧ ∀ j, rI w1 27 j = rI w 28 j) ∨ ((fI w 25 3 ≠ -6 ∧ fI w 25 3 ≤ s.toInt) ∧ fI w1 25 3 = fI w 25 3 ∧ ∀ j, rI w1 27 j = rI w 27 j))) (0, am_entry 32 [.ref 25, .int s], []) w := by
  have J : ab_J ab_TT ab_sets ab_WR w w := ⟨I, ab_fr.rf⟩
  have zs := ab_any32 s
  unfold ab_lo32 ab_hi32 at zs
  show aw none (d + 1) 32 _ (0, [some (.ref 25), some (.int s)], []) w
  refine aw_step (f1 := (1, [some (.ref 25), some (.int s)], [(.ref 25)])) (w1 := w) rfl rfl ?_
  refine s_gi J 4 rfl rfl rfl rfl rfl rfl fun x1 x1a x1b x1f => ?_
  have x1v : x1.toInt = fI w 25 3 := by rw [← fI_of x1f]
  refine s_i (pc1 := 6) (ls1 := [some (.ref 25), some (.int s)]) (st1 := [(.int x1)]) rfl rfl fun x2 e3 => ?_
  have e3t : x2.toInt = -6 := by rw [e3]; rfl
  refine s_ic 17 9 rfl rfl rfl (fun (h4 : x1.toInt = x2.toInt) => ?_) (fun (h4 : ¬ (x1.toInt = x2.toInt)) => ?_)
  · --
    refine aw_step (f1 := (18, [some (.ref 25), some (.int s)], [(.ref 25)])) (w1 := w) rfl rfl ?_
    refine aw_step (f1 := (19, [some (.ref 25), some (.int s)], [(.int s), (.ref 25)])) (w1 := w) rfl rfl ?_
    refine s_pi J 22 rfl rfl rfl rfl rfl rfl rfl (by omega) (by omega) fun w5 J6 w5e => ?_
    have w5f := fv_st J.1 (p := 25) (kf := 3) rfl (by decide) w5e
    refine aw_step (f1 := (23, [some (.ref 25), some (.int s)], [(.ref 25)])) (w1 := w5) rfl rfl ?_
    refine s_gr 28 J6 26 rfl rfl rfl rfl rfl rfl ?_
    refine s_i (pc1 := 27) (ls1 := [some (.ref 25), some (.int s)]) (st1 := [(.ref 28)]) rfl rfl fun x7 e8 => ?_
    have e8t : x7.toInt = 0 := by rw [e8]; rfl
    refine aw_step (f1 := (28, [some (.ref 25), some (.int s)], [(.ref 25), (.int x7), (.ref 28)])) (w1 := w5) rfl rfl ?_
    refine s_gr 27 J6 31 rfl rfl rfl rfl rfl rfl ?_
    refine s_i (pc1 := 32) (ls1 := [some (.ref 25), some (.int s)]) (st1 := [(.ref 27), (.int x7), (.ref 28)]) rfl rfl fun x9 e10 => ?_
    have e10t : x9.toInt = 0 := by rw [e10]; rfl
    refine s_i (pc1 := 33) (ls1 := [some (.ref 25), some (.int s)]) (st1 := [(.int x9), (.ref 27), (.int x7), (.ref 28)]) rfl rfl fun x11 e12 => ?_
    have e12t : x11.toInt = 5 := by rw [e12]; rfl
    refine s_cp (a := 27) (b := 28) (n := 5) J6 36 rfl rfl rfl rfl rfl rfl (by omega) (by omega) (by omega) (by decide) fun w13 J14 w13f => ?_
    refine aw_ret (v := none) rfl rfl ?_
    refine ⟨rfl, J14, (oc w5f.1 (by decide)).trans (oc w13f.1 (by decide)), ?_, Or.inl ⟨by omega, ?_, fun j => ?_⟩⟩
    · rw [w13f.1.fIe (by decide), fI_eq (w5f.2.2 2 (by decide))]
    · rw [w13f.1.fIe (by decide), fI_of w5f.2.1]
    · rw [w13f.2 j, w5f.1.rIe (by decide)]
  · --
    refine aw_step (f1 := (10, [some (.ref 25), some (.int s)], [(.int s)])) (w1 := w) rfl rfl ?_
    refine aw_step (f1 := (11, [some (.ref 25), some (.int s)], [(.ref 25), (.int s)])) (w1 := w) rfl rfl ?_
    refine s_gi J 14 rfl rfl rfl rfl rfl rfl fun x15 x15a x15b x15f => ?_
    have x15v : x15.toInt = fI w 25 3 := by rw [← fI_of x15f]
    refine s_ic 36 17 rfl rfl rfl (fun (h16 : x15.toInt ≤ s.toInt) => ?_) (fun (h16 : ¬ (x15.toInt ≤ s.toInt)) => ?_)
    · --
      refine aw_ret (v := none) rfl rfl ?_
      exact ⟨rfl, J, only.rf, rfl, Or.inr ⟨⟨by omega, by omega⟩, rfl, fun j => rfl⟩⟩
    · --
      refine aw_step (f1 := (18, [some (.ref 25), some (.int s)], [(.ref 25)])) (w1 := w) rfl rfl ?_
      refine aw_step (f1 := (19, [some (.ref 25), some (.int s)], [(.int s), (.ref 25)])) (w1 := w) rfl rfl ?_
      refine s_pi J 22 rfl rfl rfl rfl rfl rfl rfl (by omega) (by omega) fun w17 J18 w17e => ?_
      have w17f := fv_st J.1 (p := 25) (kf := 3) rfl (by decide) w17e
      refine aw_step (f1 := (23, [some (.ref 25), some (.int s)], [(.ref 25)])) (w1 := w17) rfl rfl ?_
      refine s_gr 28 J18 26 rfl rfl rfl rfl rfl rfl ?_
      refine s_i (pc1 := 27) (ls1 := [some (.ref 25), some (.int s)]) (st1 := [(.ref 28)]) rfl rfl fun x19 e20 => ?_
      have e20t : x19.toInt = 0 := by rw [e20]; rfl
      refine aw_step (f1 := (28, [some (.ref 25), some (.int s)], [(.ref 25), (.int x19), (.ref 28)])) (w1 := w17) rfl rfl ?_
      refine s_gr 27 J18 31 rfl rfl rfl rfl rfl rfl ?_
      refine s_i (pc1 := 32) (ls1 := [some (.ref 25), some (.int s)]) (st1 := [(.ref 27), (.int x19), (.ref 28)]) rfl rfl fun x21 e22 => ?_
      have e22t : x21.toInt = 0 := by rw [e22]; rfl
      refine s_i (pc1 := 33) (ls1 := [some (.ref 25), some (.int s)]) (st1 := [(.int x21), (.ref 27), (.int x19), (.ref 28)]) rfl rfl fun x23 e24 => ?_
      have e24t : x23.toInt = 5 := by rw [e24]; rfl
      refine s_cp (a := 27) (b := 28) (n := 5) J18 36 rfl rfl rfl rfl rfl rfl (by omega) (by omega) (by omega) (by decide) fun w25 J26 w25f => ?_
      refine aw_ret (v := none) rfl rfl ?_
      refine ⟨rfl, J26, (oc w17f.1 (by decide)).trans (oc w25f.1 (by decide)), ?_, Or.inl ⟨by omega, ?_, fun j => ?_⟩⟩
      · rw [w25f.1.fIe (by decide), fI_eq (w17f.2.2 2 (by decide))]
      · rw [w25f.1.fIe (by decide), fI_of w17f.2.1]
      · rw [w25f.2 j, w17f.1.rIe (by decide)]
theorem e_tryL {d lv m : Nat} {bw : Nat → Int} (hm : m ≤ 5) (hbw : ∀ i j, i ≤ m → j ≤ m → 0 ≤ bw (6 * i + j) ∧ bw (6 * i + j) ≤ 36) (rcs : ∀ (D last used st : Int32) (g : Nat → Nat) (w : am_W), m - D.toInt.toNat < lv → (0 ≤ D.toInt ∧ D.toInt ≤ m) → (∀ i, i < D.toInt.toNat → g i < m) → (∀ i j, i < j → j < D.toInt.toNat → g i ≠ g j) → last.toInt = pvo m g D.toInt.toNat → used.toInt = (usd g D.toInt.toNat : Int) → st.toInt = ss m bw g D.toInt.toNat → ab_inv ab_TT ab_sets w → fI w 25 2 = m → (∀ i j, i ≤ m → j ≤ m → rI w 29 (6 * i + j) = bw (6 * i + j)) → (∀ i, i < D.toInt.toNat → rI w 28 i = g i) → bsE m bw 1000000 (-6) (vl m g D.toInt.toNat * m ^ (m - D.toInt.toNat)) (fI w 25 3) (rI w 27) → aw none (d + lv + 1) 31 (fun r w1 => r = none ∧ ab_J ab_TT ab_sets ab_WR w w1 ∧ only [25, 27, 28] w w1 ∧ fI w1 25 2 = m ∧ (∀ i, i < D.toInt.toNat → rI w1 28 i = rI w 28 i) ∧ bsE m bw 1000000 (-6) ((vl m g D.toInt.toNat + 1) * m ^ (m - D.toInt.toNat)) (fI w1 25 3) (rI w1 27)) (0, am_entry 31 [.ref 25, .int D, .int last, .int used, .int st], []) w) (D last used st : Int32) (g : Nat → Nat) {w0 : am_W} (hlv : m - D.toInt.toNat < lv + 1) (hDm : D.toInt < m) (hD : 0 ≤ D.toInt ∧ D.toInt ≤ m) (hg : ∀ i, i < D.toInt.toNat → g i < m) (hn : ∀ i j, i < j → j < D.toInt.toNat → g i ≠ g j) (hla : last.toInt = pvo m g D.toInt.toNat) (hus : used.toInt = (usd g D.toInt.toNat : Int)) (hst : st.toInt = ss m bw g D.toInt.toNat) (H28 : ∀ i, i < D.toInt.toNat → rI w0 28 i = g i) : ∀ (n : Nat) (w : am_W) (k : Int32) (o6 : Option Value), (m - k.toInt).toNat < n → 0 ≤ k.toInt → k.toInt ≤ m → ab_J ab_TT ab_sets ab_WR w0 w → only [25, 27, 28] w0 w → fI w 25 2 = m → (∀ i j, i ≤ m → j ≤ m → rI w 29 (6 * i + j) = bw (6 * i + j)) → (∀ i, i < D.toInt.toNat → rI w 28 i = g i) → bsE m bw 1000000 (-6) ((vl m g D.toInt.toNat * m + k.toInt.toNat) * m ^ (m - D.toInt.toNat - 1)) (fI w 25 3) (rI w 27) → aw none (d + lv + 2) 31 (fun r w1 => r = none ∧ ab_J ab_TT ab_sets ab_WR w0 w1 ∧ only [25, 27, 28] w0 w1 ∧ fI w1 25 2 = m ∧ (∀ i, i < D.toInt.toNat → rI w1 28 i = rI w0 28 i) ∧ bsE m bw 1000000 (-6) ((vl m g D.toInt.toNat + 1) * m ^ (m - D.toInt.toNat)) (fI w1 25 3) (rI w1 27)) (38, [some (.ref 25), some (.int D), some (.int last), some (.int used), some (.int st), some (.int k), o6], []) w := by
  have hg2 : ∀ i, i < m → (fun i => if i < D.toInt.toNat then g i else 0) i < m := fun i hi => by
    show (if i < D.toInt.toNat then g i else 0) < m
    split
    · exact hg i (by assumption)
    · omega
  have hsb := ss_b (m := m) (a := bw) (B := 36) hg2 hbw (k := D.toInt.toNat) (by omega)
  rw [ss_cg (h := g) (fun i hi => by show (if i < D.toInt.toNat then g i else 0) = g i; rw [if_pos hi])] at hsb
  have hpl : pvo m g D.toInt.toNat ≤ m := by
    have := pvo_le (m := m) hg2 (k := D.toInt.toNat) (by omega)
    rw [pvo_cg (h := g) (fun i hi => by show (if i < D.toInt.toNat then g i else 0) = g i; rw [if_pos hi])] at this
    exact this
  intro n
  induction n with
  | zero => intro w k o6 p; omega
  | succ n ih =>
    intro w k o6 p1 p2 p3 J O M2 W29 O28 B
    refine aw_step (f1 := (40, [some (.ref 25), some (.int D), some (.int last), some (.int used), some (.int st), some (.int k), o6], [(.int k)])) (w1 := w) rfl rfl ?_
    refine aw_step (f1 := (41, [some (.ref 25), some (.int D), some (.int last), some (.int used), some (.int st), some (.int k), o6], [(.ref 25), (.int k)])) (w1 := w) rfl rfl ?_
    refine s_gi J 44 rfl rfl rfl rfl rfl rfl fun x1 x1a x1b x1f => ?_
    have x1v : x1.toInt = fI w 25 2 := by rw [← fI_of x1f]
    refine s_ic 104 47 rfl rfl rfl (fun (h2 : x1.toInt ≤ k.toInt) => ?_) (fun (h2 : ¬ (x1.toInt ≤ k.toInt)) => ?_)
    · --
      refine aw_ret (v := none) rfl rfl ?_
      refine ⟨rfl, J, O, M2, fun i hi => by rw [O28 i hi, H28 i hi], ?_⟩
      have e9 := (mul_st (a := vl m g D.toInt.toNat) (m := m) (M := m ^ (m - D.toInt.toNat - 1)) (k := 0) (by omega)).2.1
      have B9 := B
      rw [show k.toInt.toNat = m by omega] at B9
      rw [pow_st (show D.toInt.toNat < m by omega), ← e9]
      exact B9
    · --
      refine aw_step (f1 := (48, [some (.ref 25), some (.int D), some (.int last), some (.int used), some (.int st), some (.int k), o6], [(.int used)])) (w1 := w) rfl rfl ?_
      refine aw_step (f1 := (50, [some (.ref 25), some (.int D), some (.int last), some (.int used), some (.int st), some (.int k), o6], [(.int k), (.int used)])) (w1 := w) rfl rfl ?_
      --
      refine s_i (pc1 := 51) (ls1 := [some (.ref 25), some (.int D), some (.int last), some (.int used), some (.int st), some (.int k), o6]) (st1 := []) rfl rfl fun x3 e4 => ?_
      have e4 : x3 = used >>> (k &&& 31) := e4
      --
      refine s_i (pc1 := 52) (ls1 := [some (.ref 25), some (.int D), some (.int last), some (.int used), some (.int st), some (.int k), o6]) (st1 := [(.int x3)]) rfl rfl fun x5 e6 => ?_
      have e6t : x5.toInt = 1 := by rw [e6]; rfl
      --
      refine s_i (pc1 := 53) (ls1 := [some (.ref 25), some (.int D), some (.int last), some (.int used), some (.int st), some (.int k), o6]) (st1 := []) rfl rfl fun x7 e8 => ?_
      have e8 : x7 = x3 &&& x5 := e8
      have ul := usd_32 hm hg
      have hbt : x7.toInt = bt (usd g D.toInt.toNat) k.toInt.toNat := by
        have q := (i_pq (x := used) (p := k) (by omega) (by omega) (by omega) (by omega)).2.1
        rw [show used.toInt.toNat = usd g D.toInt.toNat by omega] at q
        rw [← q, e8, e4, show x5 = 1 from n_1 (by omega)]
      have lbt := bt_le (usd g D.toInt.toNat) k.toInt.toNat
      refine s_if 98 56 rfl rfl rfl (fun (h9 : ¬ x7.toInt = 0) => ?_) (fun (h9 : ¬ (¬ x7.toInt = 0)) => ?_)
      · --
        refine aw_step (f1 := (101, [some (.ref 25), some (.int D), some (.int last), some (.int used), some (.int st), some (.int (k + Int32.ofInt 1)), o6], [])) (w1 := w) rfl rfl ?_
        obtain ⟨x10, x10e⟩ : ∃ z, z = (k + Int32.ofInt 1) := ⟨_, rfl⟩
        have x10t : x10.toInt = k.toInt + (1) := by rw [x10e]; exact n_add (y := Int32.ofInt (1)) (by show _ ≤ _ + (1 : Int); omega) (by show _ + (1 : Int) ≤ _; omega)
        rw [← x10e]
        refine aw_step (f1 := (38, [some (.ref 25), some (.int D), some (.int last), some (.int used), some (.int st), some (.int x10), o6], [])) (w1 := w) rfl rfl ?_
        refine ih w x10 _ (by omega) (by omega) (by omega) J O M2 W29 O28 ?_
        rw [show x10.toInt.toNat = k.toInt.toNat + 1 by omega]
        exact B.no (by have := (mul_st (a := vl m g D.toInt.toNat) (M := m ^ (m - D.toInt.toNat - 1)) (show k.toInt.toNat < m by omega)).1; omega) (fun h p l1 l2 => blk_no (by omega) hg (by omega) (by omega) p l1 l2)
      · --
        refine aw_step (f1 := (57, [some (.ref 25), some (.int D), some (.int last), some (.int used), some (.int st), some (.int k), o6], [(.ref 25)])) (w1 := w) rfl rfl ?_
        refine s_gr 28 J 60 rfl rfl rfl rfl rfl rfl ?_
        refine aw_step (f1 := (61, [some (.ref 25), some (.int D), some (.int last), some (.int used), some (.int st), some (.int k), o6], [(.int D), (.ref 28)])) (w1 := w) rfl rfl ?_
        refine aw_step (f1 := (63, [some (.ref 25), some (.int D), some (.int last), some (.int used), some (.int st), some (.int k), o6], [(.int k), (.int D), (.ref 28)])) (w1 := w) rfl rfl ?_
        refine s_is J 64 rfl rfl rfl rfl (by omega) (by omega) (by omega) (by omega) fun w11 J12 w11e => ?_
        have w11f := rI_st J.1 (p := 28) (j := D.toInt.toNat) rfl (by omega) w11e
        refine aw_step (f1 := (65, [some (.ref 25), some (.int D), some (.int last), some (.int used), some (.int st), some (.int k), o6], [(.ref 25)])) (w1 := w11) rfl rfl ?_
        refine s_gr 29 J12 68 rfl rfl rfl rfl rfl rfl ?_
        refine aw_step (f1 := (69, [some (.ref 25), some (.int D), some (.int last), some (.int used), some (.int st), some (.int k), o6], [(.int last), (.ref 29)])) (w1 := w11) rfl rfl ?_
        refine s_i (pc1 := 71) (ls1 := [some (.ref 25), some (.int D), some (.int last), some (.int used), some (.int st), some (.int k), o6]) (st1 := [(.int last), (.ref 29)]) rfl rfl fun x13 e14 => ?_
        have e14t : x13.toInt = 6 := by rw [e14]; rfl
        refine s_i (pc1 := 72) (ls1 := [some (.ref 25), some (.int D), some (.int last), some (.int used), some (.int st), some (.int k), o6]) (st1 := [(.ref 29)]) rfl rfl fun x15 e16 => ?_
        have e16 : x15 = last * x13 := e16
        have e16t : x15.toInt = last.toInt * 6 := by rw [e16, n_mul (by rw [e14t]; omega) (by rw [e14t]; omega), e14t]
        refine aw_step (f1 := (74, [some (.ref 25), some (.int D), some (.int last), some (.int used), some (.int st), some (.int k), o6], [(.int k), (.int x15), (.ref 29)])) (w1 := w11) rfl rfl ?_
        refine s_i (pc1 := 75) (ls1 := [some (.ref 25), some (.int D), some (.int last), some (.int used), some (.int st), some (.int k), o6]) (st1 := [(.ref 29)]) rfl rfl fun x17 e18 => ?_
        have e18 : x17 = x15 + k := e18
        have e18t : x17.toInt = x15.toInt + k.toInt := by rw [e18]; exact n_add (by omega) (by omega)
        --
        refine s_ia J12 76 rfl rfl rfl rfl (by omega) (by omega) fun x19 x19a x19b x19f => ?_
        have x19v : x19.toInt = rI w 29 x17.toInt.toNat := by rw [← rI_of x19f, w11f.1.rIe (by decide)]
        have pl := hpl
        have hmo : x19.toInt = bw (6 * pvo m g D.toInt.toNat + k.toInt.toNat) := by rw [x19v, show x17.toInt.toNat = 6 * pvo m g D.toInt.toNat + k.toInt.toNat by omega]; exact W29 _ _ (by omega) (by omega)
        have hmb := hbw (pvo m g D.toInt.toNat) k.toInt.toNat (by omega) (by omega)
        refine aw_step (f1 := (78, [some (.ref 25), some (.int D), some (.int last), some (.int used), some (.int st), some (.int k), some (.int x19)], [])) (w1 := w11) rfl rfl ?_
        refine aw_step (f1 := (79, [some (.ref 25), some (.int D), some (.int last), some (.int used), some (.int st), some (.int k), some (.int x19)], [(.ref 25)])) (w1 := w11) rfl rfl ?_
        refine aw_step (f1 := (80, [some (.ref 25), some (.int D), some (.int last), some (.int used), some (.int st), some (.int k), some (.int x19)], [(.int D), (.ref 25)])) (w1 := w11) rfl rfl ?_
        refine s_i (pc1 := 81) (ls1 := [some (.ref 25), some (.int D), some (.int last), some (.int used), some (.int st), some (.int k), some (.int x19)]) (st1 := [(.int D), (.ref 25)]) rfl rfl fun x20 e21 => ?_
        have e21t : x20.toInt = 1 := by rw [e21]; rfl
        refine s_i (pc1 := 82) (ls1 := [some (.ref 25), some (.int D), some (.int last), some (.int used), some (.int st), some (.int k), some (.int x19)]) (st1 := [(.ref 25)]) rfl rfl fun x22 e23 => ?_
        have e23 : x22 = D + x20 := e23
        have e23t : x22.toInt = D.toInt + x20.toInt := by rw [e23]; exact n_add (by omega) (by omega)
        refine aw_step (f1 := (84, [some (.ref 25), some (.int D), some (.int last), some (.int used), some (.int st), some (.int k), some (.int x19)], [(.int k), (.int x22), (.ref 25)])) (w1 := w11) rfl rfl ?_
        refine aw_step (f1 := (85, [some (.ref 25), some (.int D), some (.int last), some (.int used), some (.int st), some (.int k), some (.int x19)], [(.int used), (.int k), (.int x22), (.ref 25)])) (w1 := w11) rfl rfl ?_
        refine s_i (pc1 := 86) (ls1 := [some (.ref 25), some (.int D), some (.int last), some (.int used), some (.int st), some (.int k), some (.int x19)]) (st1 := [(.int used), (.int k), (.int x22), (.ref 25)]) rfl rfl fun x24 e25 => ?_
        have e25t : x24.toInt = 1 := by rw [e25]; rfl
        --
        refine aw_step (f1 := (88, [some (.ref 25), some (.int D), some (.int last), some (.int used), some (.int st), some (.int k), some (.int x19)], [(.int k), (.int x24), (.int used), (.int k), (.int x22), (.ref 25)])) (w1 := w11) rfl rfl ?_
        refine s_i (pc1 := 89) (ls1 := [some (.ref 25), some (.int D), some (.int last), some (.int used), some (.int st), some (.int k), some (.int x19)]) (st1 := [(.int used), (.int k), (.int x22), (.ref 25)]) rfl rfl fun x26 e27 => ?_
        have e27 : x26 = x24 <<< (k &&& 31) := e27
        --
        refine s_i (pc1 := 90) (ls1 := [some (.ref 25), some (.int D), some (.int last), some (.int used), some (.int st), some (.int k), some (.int x19)]) (st1 := [(.int k), (.int x22), (.ref 25)]) rfl rfl fun x28 e29 => ?_
        have e29 : x28 = used ||| x26 := e29
        have hpo := i_pq (x := used) (p := k) (by omega) (by omega) (by omega) (by omega)
        have hus2 : x28.toInt = ((usd g D.toInt.toNat ||| 2 ^ k.toInt.toNat : Nat) : Int) := by
          rw [← show used.toInt.toNat = usd g D.toInt.toNat by omega, ← hpo.1, e29, e27, show x24 = 1 from n_1 (by omega)]
        refine aw_step (f1 := (92, [some (.ref 25), some (.int D), some (.int last), some (.int used), some (.int st), some (.int k), some (.int x19)], [(.int st), (.int x28), (.int k), (.int x22), (.ref 25)])) (w1 := w11) rfl rfl ?_
        refine aw_step (f1 := (94, [some (.ref 25), some (.int D), some (.int last), some (.int used), some (.int st), some (.int k), some (.int x19)], [(.int x19), (.int st), (.int x28), (.int k), (.int x22), (.ref 25)])) (w1 := w11) rfl rfl ?_
        refine s_i (pc1 := 95) (ls1 := [some (.ref 25), some (.int D), some (.int last), some (.int used), some (.int st), some (.int k), some (.int x19)]) (st1 := [(.int x28), (.int k), (.int x22), (.ref 25)]) rfl rfl fun x30 e31 => ?_
        have e31 : x30 = st + x19 := e31
        have e31t : x30.toInt = st.toInt + x19.toInt := by rw [e31]; exact n_add (by omega) (by omega)
        have d2n : x22.toInt.toNat = D.toInt.toNat + 1 := by omega
        have tA : ∀ i, i < x22.toInt.toNat → ext g D.toInt.toNat k.toInt.toNat i < m := fun i hi => by
          by_cases z : i = D.toInt.toNat
          · rw [z, ext_at]; omega
          · rw [ext_lo (by omega)]; exact hg i (by omega)
        have tB : ∀ i j, i < j → j < x22.toInt.toNat → ext g D.toInt.toNat k.toInt.toNat i ≠ ext g D.toInt.toNat k.toInt.toNat j := fun i j h1 h2 => by
          by_cases z : j = D.toInt.toNat
          · rw [z, ext_at, ext_lo (by omega)]
            intro e
            have := usd_b.mpr ⟨i, (by omega : i < D.toInt.toNat), e⟩
            omega
          · rw [ext_lo (by omega), ext_lo (by omega)]; exact hn i j h1 (by omega)
        have tC : k.toInt = pvo m (ext g D.toInt.toNat k.toInt.toNat) x22.toInt.toNat := by
          rw [d2n]
          show _ = ((ext g D.toInt.toNat k.toInt.toNat D.toInt.toNat : Nat) : Int)
          rw [ext_at]
          omega
        have tD : x28.toInt = (usd (ext g D.toInt.toNat k.toInt.toNat) x22.toInt.toNat : Int) := by rw [d2n, usd_ext]; exact hus2
        have tE : x30.toInt = ss m bw (ext g D.toInt.toNat k.toInt.toNat) x22.toInt.toNat := by rw [d2n, ss_ext]; omega
        have tF : fI w11 25 2 = m := by rw [w11f.1.fIe (by decide)]; exact M2
        have tG : ∀ i j, i ≤ m → j ≤ m → rI w11 29 (6 * i + j) = bw (6 * i + j) := fun i j a b => by rw [w11f.1.rIe (by decide)]; exact W29 i j a b
        have tH : ∀ i, i < x22.toInt.toNat → rI w11 28 i = ext g D.toInt.toNat k.toInt.toNat i := fun i hi => by
          by_cases z : i = D.toInt.toNat
          · rw [z, ext_at, w11f.2.1]; omega
          · rw [ext_lo (by omega), w11f.2.2 i z]; exact O28 i (by omega)
        have tI : bsE m bw 1000000 (-6) (vl m (ext g D.toInt.toNat k.toInt.toNat) x22.toInt.toNat * m ^ (m - x22.toInt.toNat)) (fI w11 25 3) (rI w11 27) := by
          have r27 : rI w11 27 = rI w 27 := by funext j; exact w11f.1.rIe (by decide)
          rw [d2n, vl_ext, show m - (D.toInt.toNat + 1) = m - D.toInt.toNat - 1 by omega, w11f.1.fIe (by decide), r27]
          exact B
        refine s_cs (z := 31) (as := [(.ref 25), (.int x22), (.int k), (.int x28), (.int x30)]) (st1 := []) 98 rfl rfl rfl rfl rfl rfl (Nat.le_of_ble_eq_true rfl) (Nat.le_of_ble_eq_true rfl) (Nat.le_of_ble_eq_true rfl) (rcs x22 k x28 x30 (ext g D.toInt.toNat k.toInt.toNat) w11 (by omega) ⟨by omega, by omega⟩ tA tB tC tD tE J12.1 tF tG tH tI) ?_
        rintro _ w32 ⟨rfl, J33c, w32o, w32m, w32r, w32b⟩
        have J33 := J12.trans J33c
        refine ⟨am_len2 J12 J33c, ?_⟩
        show aw none _ 31 _ (98, [some (.ref 25), some (.int D), some (.int last), some (.int used), some (.int st), some (.int k), some (.int x19)], []) w32
        refine aw_step (f1 := (101, [some (.ref 25), some (.int D), some (.int last), some (.int used), some (.int st), some (.int (k + Int32.ofInt 1)), some (.int x19)], [])) (w1 := w32) rfl rfl ?_
        obtain ⟨x34, x34e⟩ : ∃ z, z = (k + Int32.ofInt 1) := ⟨_, rfl⟩
        have x34t : x34.toInt = k.toInt + (1) := by rw [x34e]; exact n_add (y := Int32.ofInt (1)) (by show _ ≤ _ + (1 : Int); omega) (by show _ + (1 : Int) ≤ _; omega)
        rw [← x34e]
        refine aw_step (f1 := (38, [some (.ref 25), some (.int D), some (.int last), some (.int used), some (.int st), some (.int x34), some (.int x19)], [])) (w1 := w32) rfl rfl ?_
        refine ih w32 x34 _ (by omega) (by omega) (by omega) J33 ((O.trans (oc w11f.1 (by decide))).trans w32o) w32m (fun i j a b => by rw [w32o.rIe (by decide)]; exact tG i j a b) (fun i hi => by rw [w32r i (by omega), tH i (by omega), ext_lo hi]) ?_
        have b9 := w32b
        rw [d2n, vl_ext, show m - (D.toInt.toNat + 1) = m - D.toInt.toNat - 1 by omega] at b9
        rw [show x34.toInt.toNat = k.toInt.toNat + 1 by omega, ← Nat.add_assoc]
        exact b9
theorem e_try {d m : Nat} {bw : Nat → Int} (hm : m ≤ 5) (hbw : ∀ i j, i ≤ m → j ≤ m → 0 ≤ bw (6 * i + j) ∧ bw (6 * i + j) ≤ 36) : ∀ (lv : Nat) (D last used st : Int32) (g : Nat → Nat) (w : am_W), m - D.toInt.toNat < lv → (0 ≤ D.toInt ∧ D.toInt ≤ m) → (∀ i, i < D.toInt.toNat → g i < m) → (∀ i j, i < j → j < D.toInt.toNat → g i ≠ g j) → last.toInt = pvo m g D.toInt.toNat → used.toInt = (usd g D.toInt.toNat : Int) → st.toInt = ss m bw g D.toInt.toNat → ab_inv ab_TT ab_sets w → fI w 25 2 = m → (∀ i j, i ≤ m → j ≤ m → rI w 29 (6 * i + j) = bw (6 * i + j)) → (∀ i, i < D.toInt.toNat → rI w 28 i = g i) → bsE m bw 1000000 (-6) (vl m g D.toInt.toNat * m ^ (m - D.toInt.toNat)) (fI w 25 3) (rI w 27) → aw none (d + lv + 1) 31 (fun r w1 => r = none ∧ ab_J ab_TT ab_sets ab_WR w w1 ∧ only [25, 27, 28] w w1 ∧ fI w1 25 2 = m ∧ (∀ i, i < D.toInt.toNat → rI w1 28 i = rI w 28 i) ∧ bsE m bw 1000000 (-6) ((vl m g D.toInt.toNat + 1) * m ^ (m - D.toInt.toNat)) (fI w1 25 3) (rI w1 27)) (0, am_entry 31 [.ref 25, .int D, .int last, .int used, .int st], []) w
  | 0 => fun D last used st g w p => by omega
  | lv + 1 => fun D last used st g w p hD hg hn hla hus hst I M2 W29 O28 B => by
    have rcs := e_try (d := d) hm hbw lv
    have J : ab_J ab_TT ab_sets ab_WR w w := ⟨I, ab_fr.rf⟩
    have hg2 : ∀ i, i < m → (fun i => if i < D.toInt.toNat then g i else 0) i < m := fun i hi => by
      show (if i < D.toInt.toNat then g i else 0) < m
      split
      · exact hg i (by assumption)
      · omega
    have hsb := ss_b (m := m) (a := bw) (B := 36) hg2 hbw (k := D.toInt.toNat) (by omega)
    rw [ss_cg (h := g) (fun i hi => by show (if i < D.toInt.toNat then g i else 0) = g i; rw [if_pos hi])] at hsb
    have hpl : pvo m g D.toInt.toNat ≤ m := by
      have := pvo_le (m := m) hg2 (k := D.toInt.toNat) (by omega)
      rw [pvo_cg (h := g) (fun i hi => by show (if i < D.toInt.toNat then g i else 0) = g i; rw [if_pos hi])] at this
      exact this
    show aw none (d + lv + 2) 31 _ (0, [some (.ref 25), some (.int D), some (.int last), some (.int used), some (.int st), none, none], []) w
    refine aw_step (f1 := (1, [some (.ref 25), some (.int D), some (.int last), some (.int used), some (.int st), none, none], [(.int D)])) (w1 := w) rfl rfl ?_
    refine aw_step (f1 := (2, [some (.ref 25), some (.int D), some (.int last), some (.int used), some (.int st), none, none], [(.ref 25), (.int D)])) (w1 := w) rfl rfl ?_
    refine s_gi J 5 rfl rfl rfl rfl rfl rfl fun x1 x1a x1b x1f => ?_
    have x1v : x1.toInt = fI w 25 2 := by rw [← fI_of x1f]
    refine s_ic 13 8 rfl rfl rfl (fun (h2 : x1.toInt ≤ D.toInt) => ?_) (fun (h2 : ¬ (x1.toInt ≤ D.toInt)) => ?_)
    · --
      refine aw_step (f1 := (14, [some (.ref 25), some (.int D), some (.int last), some (.int used), some (.int st), none, none], [(.ref 25)])) (w1 := w) rfl rfl ?_
      refine aw_step (f1 := (16, [some (.ref 25), some (.int D), some (.int last), some (.int used), some (.int st), none, none], [(.int st), (.ref 25)])) (w1 := w) rfl rfl ?_
      refine aw_step (f1 := (17, [some (.ref 25), some (.int D), some (.int last), some (.int used), some (.int st), none, none], [(.ref 25), (.int st), (.ref 25)])) (w1 := w) rfl rfl ?_
      refine s_gr 29 J 20 rfl rfl rfl rfl rfl rfl ?_
      refine aw_step (f1 := (21, [some (.ref 25), some (.int D), some (.int last), some (.int used), some (.int st), none, none], [(.int last), (.ref 29), (.int st), (.ref 25)])) (w1 := w) rfl rfl ?_
      refine s_i (pc1 := 23) (ls1 := [some (.ref 25), some (.int D), some (.int last), some (.int used), some (.int st), none, none]) (st1 := [(.int last), (.ref 29), (.int st), (.ref 25)]) rfl rfl fun x3 e4 => ?_
      have e4t : x3.toInt = 6 := by rw [e4]; rfl
      refine s_i (pc1 := 24) (ls1 := [some (.ref 25), some (.int D), some (.int last), some (.int used), some (.int st), none, none]) (st1 := [(.ref 29), (.int st), (.ref 25)]) rfl rfl fun x5 e6 => ?_
      have e6 : x5 = last * x3 := e6
      have e6t : x5.toInt = last.toInt * 6 := by rw [e6, n_mul (by rw [e4t]; omega) (by rw [e4t]; omega), e4t]
      refine aw_step (f1 := (25, [some (.ref 25), some (.int D), some (.int last), some (.int used), some (.int st), none, none], [(.ref 25), (.int x5), (.ref 29), (.int st), (.ref 25)])) (w1 := w) rfl rfl ?_
      refine s_gi J 28 rfl rfl rfl rfl rfl rfl fun x7 x7a x7b x7f => ?_
      have x7v : x7.toInt = fI w 25 2 := by rw [← fI_of x7f]
      refine s_i (pc1 := 29) (ls1 := [some (.ref 25), some (.int D), some (.int last), some (.int used), some (.int st), none, none]) (st1 := [(.ref 29), (.int st), (.ref 25)]) rfl rfl fun x8 e9 => ?_
      have e9 : x8 = x5 + x7 := e9
      have e9t : x8.toInt = x5.toInt + x7.toInt := by rw [e9]; exact n_add (by omega) (by omega)
      --
      refine s_ia J 30 rfl rfl rfl rfl (by omega) (by omega) fun x10 x10a x10b x10f => ?_
      have x10v : x10.toInt = rI w 29 x8.toInt.toNat := by rw [← rI_of x10f]
      have hmo : x10.toInt = bw (6 * pvo m g D.toInt.toNat + m) := by rw [x10v, show x8.toInt.toNat = 6 * pvo m g D.toInt.toNat + m by omega]; exact W29 _ _ (by omega) (by omega)
      have hmb := hbw (pvo m g D.toInt.toNat) m (by omega) (by omega)
      refine s_i (pc1 := 31) (ls1 := [some (.ref 25), some (.int D), some (.int last), some (.int used), some (.int st), none, none]) (st1 := [(.ref 25)]) rfl rfl fun x11 e12 => ?_
      have e12 : x11 = st + x10 := e12
      have e12t : x11.toInt = st.toInt + x10.toInt := by rw [e12]; exact n_add (by omega) (by omega)
      refine s_cv (z := 32) (p := 25) (as := [(.int x11)]) (st1 := []) J 34 rfl rfl rfl rfl rfl rfl rfl rfl (Nat.le_of_ble_eq_true rfl) (Nat.le_of_ble_eq_true rfl) (e_keep x11 J.1) ?_
      rintro _ w13 ⟨rfl, J14c, w13o, w13m, w13p⟩
      have J14 := J.trans J14c
      refine ⟨am_len2 J J14c, ?_⟩
      show aw none _ 31 _ (34, [some (.ref 25), some (.int D), some (.int last), some (.int used), some (.int st), none, none], []) w13
      refine aw_ret (v := none) rfl rfl ?_
      have Dm : D.toInt.toNat = m := by omega
      have pg : pmV m g := pm_of (fun i hi => hg i (by omega)) (fun i j a b => hn i j a (by omega))
      have hst2 := hst
      have hmo2 := hmo
      rw [Dm] at hst2 hmo2
      have hS : x11.toInt = SS m bw g := by unfold SS; omega
      have sb := fun f (pf : pmV m f) => ss_b (m := m) (a := bw) (B := 36) pf.1 hbw (k := m) (Nat.le_refl _)
      have SSb : ∀ f, pmV m f → 0 ≤ SS m bw f ∧ SS m bw f < 1000000 := fun f pf => by
        have a := sb f pf
        have b := hbw (pvo m f m) m (pvo_le pf.1 (Nat.le_refl _)) (Nat.le_refl _)
        unfold SS
        omega
      refine ⟨rfl, J14, oc w13o (by decide), by rw [w13m]; exact M2, fun i hi => w13o.rIe (by decide), ?_⟩
      rw [Dm] at B ⊢
      rw [Nat.sub_self, Nat.pow_zero, Nat.mul_one] at B ⊢
      refine B.ye (fun f pf _ => by have := SSb f pf; omega) pg rfl ?_
      have gS := SSb g pg
      rcases w13p with ⟨q1, q2, q3⟩ | ⟨q1, q2, q3⟩
      · exact Or.inl ⟨by omega, by omega, by omega, fun i hi => by rw [q3 i]; exact O28 i (by omega)⟩
      · exact Or.inr ⟨by omega, Or.inr ⟨by omega, by omega⟩, fun i hi => q3 i⟩
    · --
      refine aw_step (f1 := (9, [some (.ref 25), some (.int D), some (.int last), some (.int used), some (.int st), none, none], [(.int D)])) (w1 := w) rfl rfl ?_
      refine s_i (pc1 := 10) (ls1 := [some (.ref 25), some (.int D), some (.int last), some (.int used), some (.int st), none, none]) (st1 := [(.int D)]) rfl rfl fun x15 e16 => ?_
      have e16t : x15.toInt = 5 := by rw [e16]; rfl
      refine s_ic 35 13 rfl rfl rfl (fun (h17 : D.toInt < x15.toInt) => ?_) (fun (h17 : ¬ (D.toInt < x15.toInt)) => ?_)
      · --
        refine s_i (pc1 := 36) (ls1 := [some (.ref 25), some (.int D), some (.int last), some (.int used), some (.int st), none, none]) (st1 := []) rfl rfl fun x18 e19 => ?_
        have e19t : x18.toInt = 0 := by rw [e19]; rfl
        refine aw_step (f1 := (38, [some (.ref 25), some (.int D), some (.int last), some (.int used), some (.int st), some (.int x18), none], [])) (w1 := w) rfl rfl ?_
        exact e_tryL hm hbw rcs D last used st g (by omega) (by omega) hD hg hn hla hus hst O28 6 w x18 _ (by omega) (by omega) (by omega) J only.rf M2 W29 O28 (by rw [show x18.toInt.toNat = 0 by omega, (mul_st (a := vl m g D.toInt.toNat) (m := m) (M := m ^ (m - D.toInt.toNat - 1)) (k := 0) (by omega)).2.2, ← pow_st (by omega)]; exact B)
      · --
        refine aw_step (f1 := (14, [some (.ref 25), some (.int D), some (.int last), some (.int used), some (.int st), none, none], [(.ref 25)])) (w1 := w) rfl rfl ?_
        refine aw_step (f1 := (16, [some (.ref 25), some (.int D), some (.int last), some (.int used), some (.int st), none, none], [(.int st), (.ref 25)])) (w1 := w) rfl rfl ?_
        refine aw_step (f1 := (17, [some (.ref 25), some (.int D), some (.int last), some (.int used), some (.int st), none, none], [(.ref 25), (.int st), (.ref 25)])) (w1 := w) rfl rfl ?_
        refine s_gr 29 J 20 rfl rfl rfl rfl rfl rfl ?_
        refine aw_step (f1 := (21, [some (.ref 25), some (.int D), some (.int last), some (.int used), some (.int st), none, none], [(.int last), (.ref 29), (.int st), (.ref 25)])) (w1 := w) rfl rfl ?_
        refine s_i (pc1 := 23) (ls1 := [some (.ref 25), some (.int D), some (.int last), some (.int used), some (.int st), none, none]) (st1 := [(.int last), (.ref 29), (.int st), (.ref 25)]) rfl rfl fun x20 e21 => ?_
        have e21t : x20.toInt = 6 := by rw [e21]; rfl
        refine s_i (pc1 := 24) (ls1 := [some (.ref 25), some (.int D), some (.int last), some (.int used), some (.int st), none, none]) (st1 := [(.ref 29), (.int st), (.ref 25)]) rfl rfl fun x22 e23 => ?_
        have e23 : x22 = last * x20 := e23
        have e23t : x22.toInt = last.toInt * 6 := by rw [e23, n_mul (by rw [e21t]; omega) (by rw [e21t]; omega), e21t]
        refine aw_step (f1 := (25, [some (.ref 25), some (.int D), some (.int last), some (.int used), some (.int st), none, none], [(.ref 25), (.int x22), (.ref 29), (.int st), (.ref 25)])) (w1 := w) rfl rfl ?_
        refine s_gi J 28 rfl rfl rfl rfl rfl rfl fun x24 x24a x24b x24f => ?_
        have x24v : x24.toInt = fI w 25 2 := by rw [← fI_of x24f]
        refine s_i (pc1 := 29) (ls1 := [some (.ref 25), some (.int D), some (.int last), some (.int used), some (.int st), none, none]) (st1 := [(.ref 29), (.int st), (.ref 25)]) rfl rfl fun x25 e26 => ?_
        have e26 : x25 = x22 + x24 := e26
        have e26t : x25.toInt = x22.toInt + x24.toInt := by rw [e26]; exact n_add (by omega) (by omega)
        --
        refine s_ia J 30 rfl rfl rfl rfl (by omega) (by omega) fun x27 x27a x27b x27f => ?_
        have x27v : x27.toInt = rI w 29 x25.toInt.toNat := by rw [← rI_of x27f]
        have hmo : x27.toInt = bw (6 * pvo m g D.toInt.toNat + m) := by rw [x27v, show x25.toInt.toNat = 6 * pvo m g D.toInt.toNat + m by omega]; exact W29 _ _ (by omega) (by omega)
        have hmb := hbw (pvo m g D.toInt.toNat) m (by omega) (by omega)
        refine s_i (pc1 := 31) (ls1 := [some (.ref 25), some (.int D), some (.int last), some (.int used), some (.int st), none, none]) (st1 := [(.ref 25)]) rfl rfl fun x28 e29 => ?_
        have e29 : x28 = st + x27 := e29
        have e29t : x28.toInt = st.toInt + x27.toInt := by rw [e29]; exact n_add (by omega) (by omega)
        refine s_cv (z := 32) (p := 25) (as := [(.int x28)]) (st1 := []) J 34 rfl rfl rfl rfl rfl rfl rfl rfl (Nat.le_of_ble_eq_true rfl) (Nat.le_of_ble_eq_true rfl) (e_keep x28 J.1) ?_
        rintro _ w30 ⟨rfl, J31c, w30o, w30m, w30p⟩
        have J31 := J.trans J31c
        refine ⟨am_len2 J J31c, ?_⟩
        show aw none _ 31 _ (34, [some (.ref 25), some (.int D), some (.int last), some (.int used), some (.int st), none, none], []) w30
        refine aw_ret (v := none) rfl rfl ?_
        have Dm : D.toInt.toNat = m := by omega
        have pg : pmV m g := pm_of (fun i hi => hg i (by omega)) (fun i j a b => hn i j a (by omega))
        have hst2 := hst
        have hmo2 := hmo
        rw [Dm] at hst2 hmo2
        have hS : x28.toInt = SS m bw g := by unfold SS; omega
        have sb := fun f (pf : pmV m f) => ss_b (m := m) (a := bw) (B := 36) pf.1 hbw (k := m) (Nat.le_refl _)
        have SSb : ∀ f, pmV m f → 0 ≤ SS m bw f ∧ SS m bw f < 1000000 := fun f pf => by
          have a := sb f pf
          have b := hbw (pvo m f m) m (pvo_le pf.1 (Nat.le_refl _)) (Nat.le_refl _)
          unfold SS
          omega
        refine ⟨rfl, J31, oc w30o (by decide), by rw [w30m]; exact M2, fun i hi => w30o.rIe (by decide), ?_⟩
        rw [Dm] at B ⊢
        rw [Nat.sub_self, Nat.pow_zero, Nat.mul_one] at B ⊢
        refine B.ye (fun f pf _ => by have := SSb f pf; omega) pg rfl ?_
        have gS := SSb g pg
        rcases w30p with ⟨q1, q2, q3⟩ | ⟨q1, q2, q3⟩
        · exact Or.inl ⟨by omega, by omega, by omega, fun i hi => by rw [q3 i]; exact O28 i (by omega)⟩
        · exact Or.inr ⟨by omega, Or.inr ⟨by omega, by omega⟩, fun i hi => q3 i⟩
