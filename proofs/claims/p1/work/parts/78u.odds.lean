/-! ===== after, ways, chance of the class ===== -/
theorem cnt_z64 : cnt 0 64 = 0 := by decide
theorem cnt_0z {x : Nat} (hx : x < 2 ^ 64) (h : cnt x 64 = 0) : x = 0 := by
  apply Classical.byContradiction
  intro q
  have := cnt_nz q hx
  omega
theorem e_fl31L {d : Nat} {w00 : am_W} (v : Int64) (m : Int32) (hm : m.toInt = 36) : ∀ (k : Nat) (w : am_W) (i : Int32), (36 - i.toInt).toNat < k → 0 ≤ i.toInt → i.toInt ≤ 36 → ab_J ab_TT ab_sets ab_WR w00 w → only [31] w00 w → (∀ j : Nat, (j : Int) < i.toInt → rL w 31 j = n64 v) → aw none d 191 (fun r w1 => r = none ∧ ab_J ab_TT ab_sets ab_WR w00 w1 ∧ only [31] w00 w1 ∧ ∀ j : Nat, j < 36 → rL w1 31 j = n64 v) (6, [some (.ref 31), some (.long v), none, some (.int i), some (.int m)], []) w := by
  have va := ab_any64 v
  unfold ab_lo64 ab_hi64 at va
  intro k
  induction k with
  | zero => intro w i p; omega
  | succ k ih =>
    intro w i p1 p2 p3 J O F
    refine aw_step (f1 := (7, [some (.ref 31), some (.long v), none, some (.int i), some (.int m)], [(.int i)])) (w1 := w) rfl rfl ?_
    refine aw_step (f1 := (9, [some (.ref 31), some (.long v), none, some (.int i), some (.int m)], [(.int m), (.int i)])) (w1 := w) rfl rfl ?_
    refine s_ic 22 12 rfl rfl rfl (fun (h1 : m.toInt ≤ i.toInt) => ?_) (fun (h1 : ¬ (m.toInt ≤ i.toInt)) => ?_)
    · --
      refine aw_ret (v := none) rfl rfl ?_
      exact ⟨rfl, J, O, fun j hj => F j (by omega)⟩
    · --
      refine aw_step (f1 := (13, [some (.ref 31), some (.long v), none, some (.int i), some (.int m)], [(.ref 31)])) (w1 := w) rfl rfl ?_
      refine aw_step (f1 := (14, [some (.ref 31), some (.long v), none, some (.int i), some (.int m)], [(.int i), (.ref 31)])) (w1 := w) rfl rfl ?_
      refine aw_step (f1 := (15, [some (.ref 31), some (.long v), none, some (.int i), some (.int m)], [(.long v), (.int i), (.ref 31)])) (w1 := w) rfl rfl ?_
      refine s_ls J 16 rfl rfl rfl rfl (by omega) (by omega) (by omega) (by omega) fun w2 J3 w2e => ?_
      have w2f := rL_st J.1 (p := 31) (j := i.toInt.toNat) rfl (by omega) w2e
      refine aw_step (f1 := (19, [some (.ref 31), some (.long v), none, some (.int (i + Int32.ofInt 1)), some (.int m)], [])) (w1 := w2) rfl rfl ?_
      obtain ⟨x4, x4e⟩ : ∃ z, z = (i + Int32.ofInt 1) := ⟨_, rfl⟩
      have x4t : x4.toInt = i.toInt + (1) := by rw [x4e]; exact n_add (y := Int32.ofInt (1)) (by show _ ≤ _ + (1 : Int); omega) (by show _ + (1 : Int) ≤ _; omega)
      rw [← x4e]
      refine aw_step (f1 := (6, [some (.ref 31), some (.long v), none, some (.int x4), some (.int m)], [])) (w1 := w2) rfl rfl ?_
      refine ih w2 x4 (by omega) (by omega) (by omega) J3 (O.trans w2f.1) (fun j hj => ?_)
      by_cases q : j = i.toInt.toNat
      · rw [q]; exact w2f.2.1
      · rw [w2f.2.2 j q]; exact F j (by omega)
theorem e_fl31 {d : Nat} {w : am_W} (v : Int64) (I : ab_inv ab_TT ab_sets w) : aw none d 191 (fun r w1 => r = none ∧ ab_J ab_TT ab_sets ab_WR w w1 ∧ only [31] w w1 ∧ ∀ j : Nat, j < 36 → rL w1 31 j = n64 v) (0, am_entry 191 [.ref 31, .long v], []) w := by
  have J : ab_J ab_TT ab_sets ab_WR w w := ⟨I, ab_fr.rf⟩
  show aw none d 191 _ (0, [some (.ref 31), some (.long v), none, none, none], []) w
  refine s_i (pc1 := 1) (ls1 := [some (.ref 31), some (.long v), none, none, none]) (st1 := []) rfl rfl fun x1 e2 => ?_
  have e2t : x1.toInt = 0 := by rw [e2]; rfl
  refine aw_step (f1 := (2, [some (.ref 31), some (.long v), none, some (.int x1), none], [])) (w1 := w) rfl rfl ?_
  refine aw_step (f1 := (3, [some (.ref 31), some (.long v), none, some (.int x1), none], [(.ref 31)])) (w1 := w) rfl rfl ?_
  refine s_alL J 4 rfl rfl rfl (by decide) fun x3 x3t => ?_
  refine aw_step (f1 := (6, [some (.ref 31), some (.long v), none, some (.int x1), some (.int x3)], [])) (w1 := w) rfl rfl ?_
  exact e_fl31L v x3 (by omega) 37 w x1 (by omega) (by omega) (by omega) J only.rf (fun j hj => by omega)
theorem e_fl32L {d : Nat} {w00 : am_W} (v : Int64) (m : Int32) (hm : m.toInt = 36) : ∀ (k : Nat) (w : am_W) (i : Int32), (36 - i.toInt).toNat < k → 0 ≤ i.toInt → i.toInt ≤ 36 → ab_J ab_TT ab_sets ab_WR w00 w → only [32] w00 w → (∀ j : Nat, (j : Int) < i.toInt → rL w 32 j = n64 v) → aw none d 191 (fun r w1 => r = none ∧ ab_J ab_TT ab_sets ab_WR w00 w1 ∧ only [32] w00 w1 ∧ ∀ j : Nat, j < 36 → rL w1 32 j = n64 v) (6, [some (.ref 32), some (.long v), none, some (.int i), some (.int m)], []) w := by
  have va := ab_any64 v
  unfold ab_lo64 ab_hi64 at va
  intro k
  induction k with
  | zero => intro w i p; omega
  | succ k ih =>
    intro w i p1 p2 p3 J O F
    refine aw_step (f1 := (7, [some (.ref 32), some (.long v), none, some (.int i), some (.int m)], [(.int i)])) (w1 := w) rfl rfl ?_
    refine aw_step (f1 := (9, [some (.ref 32), some (.long v), none, some (.int i), some (.int m)], [(.int m), (.int i)])) (w1 := w) rfl rfl ?_
    refine s_ic 22 12 rfl rfl rfl (fun (h1 : m.toInt ≤ i.toInt) => ?_) (fun (h1 : ¬ (m.toInt ≤ i.toInt)) => ?_)
    · --
      refine aw_ret (v := none) rfl rfl ?_
      exact ⟨rfl, J, O, fun j hj => F j (by omega)⟩
    · --
      refine aw_step (f1 := (13, [some (.ref 32), some (.long v), none, some (.int i), some (.int m)], [(.ref 32)])) (w1 := w) rfl rfl ?_
      refine aw_step (f1 := (14, [some (.ref 32), some (.long v), none, some (.int i), some (.int m)], [(.int i), (.ref 32)])) (w1 := w) rfl rfl ?_
      refine aw_step (f1 := (15, [some (.ref 32), some (.long v), none, some (.int i), some (.int m)], [(.long v), (.int i), (.ref 32)])) (w1 := w) rfl rfl ?_
      refine s_ls J 16 rfl rfl rfl rfl (by omega) (by omega) (by omega) (by omega) fun w2 J3 w2e => ?_
      have w2f := rL_st J.1 (p := 32) (j := i.toInt.toNat) rfl (by omega) w2e
      refine aw_step (f1 := (19, [some (.ref 32), some (.long v), none, some (.int (i + Int32.ofInt 1)), some (.int m)], [])) (w1 := w2) rfl rfl ?_
      obtain ⟨x4, x4e⟩ : ∃ z, z = (i + Int32.ofInt 1) := ⟨_, rfl⟩
      have x4t : x4.toInt = i.toInt + (1) := by rw [x4e]; exact n_add (y := Int32.ofInt (1)) (by show _ ≤ _ + (1 : Int); omega) (by show _ + (1 : Int) ≤ _; omega)
      rw [← x4e]
      refine aw_step (f1 := (6, [some (.ref 32), some (.long v), none, some (.int x4), some (.int m)], [])) (w1 := w2) rfl rfl ?_
      refine ih w2 x4 (by omega) (by omega) (by omega) J3 (O.trans w2f.1) (fun j hj => ?_)
      by_cases q : j = i.toInt.toNat
      · rw [q]; exact w2f.2.1
      · rw [w2f.2.2 j q]; exact F j (by omega)
theorem e_fl32 {d : Nat} {w : am_W} (v : Int64) (I : ab_inv ab_TT ab_sets w) : aw none d 191 (fun r w1 => r = none ∧ ab_J ab_TT ab_sets ab_WR w w1 ∧ only [32] w w1 ∧ ∀ j : Nat, j < 36 → rL w1 32 j = n64 v) (0, am_entry 191 [.ref 32, .long v], []) w := by
  have J : ab_J ab_TT ab_sets ab_WR w w := ⟨I, ab_fr.rf⟩
  show aw none d 191 _ (0, [some (.ref 32), some (.long v), none, none, none], []) w
  refine s_i (pc1 := 1) (ls1 := [some (.ref 32), some (.long v), none, none, none]) (st1 := []) rfl rfl fun x1 e2 => ?_
  have e2t : x1.toInt = 0 := by rw [e2]; rfl
  refine aw_step (f1 := (2, [some (.ref 32), some (.long v), none, some (.int x1), none], [])) (w1 := w) rfl rfl ?_
  refine aw_step (f1 := (3, [some (.ref 32), some (.long v), none, some (.int x1), none], [(.ref 32)])) (w1 := w) rfl rfl ?_
  refine s_alL J 4 rfl rfl rfl (by decide) fun x3 x3t => ?_
  refine aw_step (f1 := (6, [some (.ref 32), some (.long v), none, some (.int x1), some (.int x3)], [])) (w1 := w) rfl rfl ?_
  exact e_fl32L v x3 (by omega) 37 w x1 (by omega) (by omega) (by omega) J only.rf (fun j hj => by omega)
theorem e_swap31 {d : Nat} {w : am_W} (od : odW w 31 32) (I : ab_inv ab_TT ab_sets w) : aw none d 10 (fun r w1 => r = none ∧ ab_J ab_TT ab_sets ab_WR w w1 ∧ only [30] w w1 ∧ odW w1 32 31 ∧ fI w1 30 3 = fI w 30 3) (0, am_entry 10 [.ref 30], []) w := by
  have J : ab_J ab_TT ab_sets ab_WR w w := ⟨I, ab_fr.rf⟩
  show aw none d 10 _ (0, [some (.ref 30), none], []) w
  refine aw_step (f1 := (1, [some (.ref 30), none], [(.ref 30)])) (w1 := w) rfl rfl ?_
  refine s_gk (q := 31) J 4 rfl rfl rfl rfl rfl rfl (od.1) ?_
  refine aw_step (f1 := (5, [some (.ref 30), some (.ref 31)], [])) (w1 := w) rfl rfl ?_
  refine aw_step (f1 := (6, [some (.ref 30), some (.ref 31)], [(.ref 30)])) (w1 := w) rfl rfl ?_
  refine aw_step (f1 := (7, [some (.ref 30), some (.ref 31)], [(.ref 30), (.ref 30)])) (w1 := w) rfl rfl ?_
  refine s_gk (q := 32) J 10 rfl rfl rfl rfl rfl rfl (od.2) ?_
  refine s_p J 13 rfl rfl rfl rfl rfl rfl rfl rfl (Or.inr (Or.inr (Or.inr ⟨rfl, 32, rfl, by decide, by decide⟩))) fun w1 J2 w1e => ?_
  have w1f := fv_st J.1 (p := 30) (kf := 0) rfl (by decide) w1e
  refine aw_step (f1 := (14, [some (.ref 30), some (.ref 31)], [(.ref 30)])) (w1 := w1) rfl rfl ?_
  refine aw_step (f1 := (15, [some (.ref 30), some (.ref 31)], [(.ref 31), (.ref 30)])) (w1 := w1) rfl rfl ?_
  refine s_p J2 18 rfl rfl rfl rfl rfl rfl rfl rfl (Or.inr (Or.inr (Or.inr ⟨rfl, 31, rfl, by decide, by decide⟩))) fun w3 J4 w3e => ?_
  have w3f := fv_st J2.1 (p := 30) (kf := 1) rfl (by decide) w3e
  refine aw_ret (v := none) rfl rfl ?_
  exact ⟨rfl, J4, w1f.1.trans w3f.1, ⟨(w3f.2.2 0 (by decide)).trans w1f.2.1, w3f.2.1⟩, fI_eq ((w3f.2.2 3 (by decide)).trans (w1f.2.2 3 (by decide)))⟩
theorem e_hand32L {d : Nat} {w00 : am_W} (c : Int32) (s : Int64) (hc : 0 ≤ c.toInt ∧ c.toInt < 36) (hB : am_fv w00 30 1 = some (.ref 32)) (hz : 0 ≤ fI w00 30 3 ∧ fI w00 30 3 ≤ 36) : ∀ (k : Nat) (w : am_W) (i : Int32), (36 - i.toInt).toNat < k → 0 ≤ i.toInt → i.toInt ≤ fI w00 30 3 → ab_J ab_TT ab_sets ab_WR w00 w → only [32] w00 w → (∀ e : Nat, (e : Int) < i.toInt → rL w 32 e = (rL w00 32 e + bt (rL w00 33 c.toInt.toNat) e * n64 s) % 18446744073709551616) → (∀ e : Nat, i.toInt ≤ (e : Int) → rL w 32 e = rL w00 32 e) → aw none (d + 1) 9 (fun r w1 => r = none ∧ ab_J ab_TT ab_sets ab_WR w00 w1 ∧ only [32] w00 w1 ∧ ∀ e : Nat, (e : Int) < fI w00 30 3 → rL w1 32 e = (rL w00 32 e + bt (rL w00 33 c.toInt.toNat) e * n64 s) % 18446744073709551616) (3, [some (.ref 30), some (.int c), some (.long s), none, some (.int i)], []) w := by
  intro k
  induction k with
  | zero => intro w i p; omega
  | succ k ih =>
    intro w i p1 p2 p3 J O F G
    refine aw_step (f1 := (5, [some (.ref 30), some (.int c), some (.long s), none, some (.int i)], [(.int i)])) (w1 := w) rfl rfl ?_
    refine aw_step (f1 := (6, [some (.ref 30), some (.int c), some (.long s), none, some (.int i)], [(.ref 30), (.int i)])) (w1 := w) rfl rfl ?_
    refine s_gi J 9 rfl rfl rfl rfl rfl rfl fun x1 x1a x1b x1f => ?_
    have x1v : x1.toInt = fI w 30 3 := by rw [← fI_of x1f]
    have hzz : fI w 30 3 = fI w00 30 3 := O.fIe (by decide)
    refine s_ic 49 12 rfl rfl rfl (fun (h2 : x1.toInt ≤ i.toInt) => ?_) (fun (h2 : ¬ (x1.toInt ≤ i.toInt)) => ?_)
    · --
      refine aw_ret (v := none) rfl rfl ?_
      refine ⟨rfl, J, O, fun e he => ?_⟩
      by_cases q : (e : Int) < i.toInt
      · exact F e q
      · first
        | (exfalso; omega)
        | rw [G e (by omega), show n64 s = 0 from n64_z.mp (by omega), Nat.mul_zero, Nat.add_zero, Nat.mod_eq_of_lt (rL_lto _ _ _)]
    · --
      refine aw_step (f1 := (13, [some (.ref 30), some (.int c), some (.long s), none, some (.int i)], [(.long s)])) (w1 := w) rfl rfl ?_
      refine s_l (pc1 := 14) (ls1 := [some (.ref 30), some (.int c), some (.long s), none, some (.int i)]) (st1 := [(.long s)]) rfl rfl fun y3 e4 => ?_
      have e4t : y3.toInt = 0 := by rw [e4]; rfl
      refine s_lc 49 18 15 rfl rfl rfl rfl rfl (fun (h5 : s.toInt = y3.toInt) => ?_) (fun (h5 : ¬ (s.toInt = y3.toInt)) => ?_)
      · --
        refine aw_ret (v := none) rfl rfl ?_
        refine ⟨rfl, J, O, fun e he => ?_⟩
        by_cases q : (e : Int) < i.toInt
        · exact F e q
        · first
          | (exfalso; omega)
          | rw [G e (by omega), show n64 s = 0 from n64_z.mp (by omega), Nat.mul_zero, Nat.add_zero, Nat.mod_eq_of_lt (rL_lto _ _ _)]
      · --
        refine aw_step (f1 := (19, [some (.ref 30), some (.int c), some (.long s), none, some (.int i)], [(.ref 30)])) (w1 := w) rfl rfl ?_
        refine s_gr 33 J 22 rfl rfl rfl rfl rfl rfl ?_
        refine aw_step (f1 := (23, [some (.ref 30), some (.int c), some (.long s), none, some (.int i)], [(.int c), (.ref 33)])) (w1 := w) rfl rfl ?_
        refine s_la J 24 rfl rfl rfl (by omega) (by omega) fun y6 y6a y6b y6f => ?_
        have hg : rL w00 33 c.toInt.toNat = n64 y6 := (O.rLe (by decide)).symm.trans (rL_of y6f)
        refine aw_step (f1 := (26, [some (.ref 30), some (.int c), some (.long s), none, some (.int i)], [(.int i), (.long y6)])) (w1 := w) rfl rfl ?_
        refine s_cs (z := 105) (as := [(.long y6), (.int i)]) (st1 := []) 29 rfl rfl rfl rfl rfl rfl (Nat.le_of_ble_eq_true rfl) (Nat.le_of_ble_eq_true rfl) (Nat.le_of_ble_eq_true rfl) (q_hasC y6 i (by omega) (by omega)) ?_
        rintro _ _ ⟨rfl, x7, rfl, x7t⟩
        refine ⟨rfl, ?_⟩
        show aw none _ 9 _ (29, [some (.ref 30), some (.int c), some (.long s), none, some (.int i)], [(.int x7)]) w
        have x7l := bt_le (n64 y6) i.toInt.toNat
        refine s_if 43 32 rfl rfl rfl (fun (h8 : x7.toInt = 0) => ?_) (fun (h8 : ¬ (x7.toInt = 0)) => ?_)
        · --
          refine aw_step (f1 := (46, [some (.ref 30), some (.int c), some (.long s), none, some (.int (i + Int32.ofInt 1))], [])) (w1 := w) rfl rfl ?_
          obtain ⟨x9, x9e⟩ : ∃ z, z = (i + Int32.ofInt 1) := ⟨_, rfl⟩
          have x9t : x9.toInt = i.toInt + (1) := by rw [x9e]; exact n_add (y := Int32.ofInt (1)) (by show _ ≤ _ + (1 : Int); omega) (by show _ + (1 : Int) ≤ _; omega)
          rw [← x9e]
          refine aw_step (f1 := (3, [some (.ref 30), some (.int c), some (.long s), none, some (.int x9)], [])) (w1 := w) rfl rfl ?_
          refine ih w x9 (by omega) (by omega) (by omega) J O (fun e he => ?_) (fun e he => G e (by omega))
          by_cases q : (e : Int) < i.toInt
          · exact F e q
          · have ee : e = i.toInt.toNat := by omega
            rw [G e (by omega), ee, hg, show bt (n64 y6) i.toInt.toNat = 0 by omega, Nat.zero_mul, Nat.add_zero, Nat.mod_eq_of_lt (rL_lto _ _ _)]
        · --
          refine aw_step (f1 := (33, [some (.ref 30), some (.int c), some (.long s), none, some (.int i)], [(.ref 30)])) (w1 := w) rfl rfl ?_
          refine s_gk (q := 32) J 36 rfl rfl rfl rfl rfl rfl ((O.fv (by decide)).trans hB) ?_
          refine aw_step (f1 := (38, [some (.ref 30), some (.int c), some (.long s), none, some (.int i)], [(.int i), (.ref 32)])) (w1 := w) rfl rfl ?_
          refine aw_step (f1 := (39, [some (.ref 30), some (.int c), some (.long s), none, some (.int i)], [(.int i), (.ref 32), (.int i), (.ref 32)])) (w1 := w) rfl rfl ?_
          refine s_la J 40 rfl rfl rfl (by omega) (by omega) fun y10 y10a y10b y10f => ?_
          have hy1 : rL w00 32 i.toInt.toNat = n64 y10 := (G i.toInt.toNat (by omega)).symm.trans (rL_of y10f)
          refine aw_step (f1 := (41, [some (.ref 30), some (.int c), some (.long s), none, some (.int i)], [(.long s), (.long y10), (.int i), (.ref 32)])) (w1 := w) rfl rfl ?_
          refine s_l (pc1 := 42) (ls1 := [some (.ref 30), some (.int c), some (.long s), none, some (.int i)]) (st1 := [(.int i), (.ref 32)]) rfl rfl fun y11 e12 => ?_
          have e12 : y11 = y10 + s := e12
          have y11A := ab_any64 y11
          unfold ab_lo64 ab_hi64 at y11A
          refine s_ls J 43 rfl rfl rfl rfl (by omega) (by omega) (by omega) (by omega) fun w13 J14 w13e => ?_
          have w13f := rL_st J.1 (p := 32) (j := i.toInt.toNat) rfl (by omega) w13e
          refine aw_step (f1 := (46, [some (.ref 30), some (.int c), some (.long s), none, some (.int (i + Int32.ofInt 1))], [])) (w1 := w13) rfl rfl ?_
          obtain ⟨x15, x15e⟩ : ∃ z, z = (i + Int32.ofInt 1) := ⟨_, rfl⟩
          have x15t : x15.toInt = i.toInt + (1) := by rw [x15e]; exact n_add (y := Int32.ofInt (1)) (by show _ ≤ _ + (1 : Int); omega) (by show _ + (1 : Int) ≤ _; omega)
          rw [← x15e]
          refine aw_step (f1 := (3, [some (.ref 30), some (.int c), some (.long s), none, some (.int x15)], [])) (w1 := w13) rfl rfl ?_
          refine ih w13 x15 (by omega) (by omega) (by omega) J14 (O.trans w13f.1) (fun e he => ?_) (fun e he => by rw [w13f.2.2 e (by omega)]; exact G e (by omega))
          by_cases q : (e : Int) < i.toInt
          · rw [w13f.2.2 e (by omega)]; exact F e q
          · have ee : e = i.toInt.toNat := by omega
            rw [ee, w13f.2.1, e12, n64_addm, ← hy1, hg, show bt (n64 y6) i.toInt.toNat = 1 by omega, Nat.one_mul]
theorem e_hand32 {d : Nat} {w : am_W} (c : Int32) (s : Int64) (hc : 0 ≤ c.toInt ∧ c.toInt < 36) (hB : am_fv w 30 1 = some (.ref 32)) (hz : 0 ≤ fI w 30 3 ∧ fI w 30 3 ≤ 36) (I : ab_inv ab_TT ab_sets w) : aw none (d + 1) 9 (fun r w1 => r = none ∧ ab_J ab_TT ab_sets ab_WR w w1 ∧ only [32] w w1 ∧ ∀ e : Nat, (e : Int) < fI w 30 3 → rL w1 32 e = (rL w 32 e + bt (rL w 33 c.toInt.toNat) e * n64 s) % 18446744073709551616) (0, am_entry 9 [.ref 30, .int c, .long s], []) w := by
  have J : ab_J ab_TT ab_sets ab_WR w w := ⟨I, ab_fr.rf⟩
  show aw none (d + 1) 9 _ (0, [some (.ref 30), some (.int c), some (.long s), none, none], []) w
  refine s_i (pc1 := 1) (ls1 := [some (.ref 30), some (.int c), some (.long s), none, none]) (st1 := []) rfl rfl fun x1 e2 => ?_
  have e2t : x1.toInt = 0 := by rw [e2]; rfl
  refine aw_step (f1 := (3, [some (.ref 30), some (.int c), some (.long s), none, some (.int x1)], [])) (w1 := w) rfl rfl ?_
  exact e_hand32L c s hc hB hz 37 w x1 (by omega) (by omega) (by omega) J only.rf (fun e he => by omega) (fun e he => rfl)
theorem e_stAll31L {d : Nat} {w00 : am_W} (od : odW w00 31 32) (hz : 0 ≤ fI w00 30 3 ∧ fI w00 30 3 ≤ 36) : ∀ (k : Nat) (w : am_W) (i : Int32), (36 - i.toInt).toNat < k → 0 ≤ i.toInt → i.toInt ≤ fI w00 30 3 → ab_J ab_TT ab_sets ab_WR w00 w → only [32] w00 w → (∀ e : Nat, (e : Int) < fI w00 30 3 → rL w 32 e = smT (fun c => bt (rL w00 33 c) e * rL w00 31 c) i.toInt.toNat % 18446744073709551616) → aw none (d + 2) 7 (fun r w1 => r = none ∧ ab_J ab_TT ab_sets ab_WR w00 w1 ∧ only [30, 32] w00 w1 ∧ odW w1 32 31 ∧ fI w1 30 3 = fI w00 30 3 ∧ ∀ e : Nat, (e : Int) < fI w00 30 3 → rL w1 32 e = smT (fun c => bt (rL w00 33 c) e * rL w00 31 c) (fI w00 30 3).toNat % 18446744073709551616) (10, [some (.ref 30), some (.int i)], []) w := by
  intro k
  induction k with
  | zero => intro w i p; omega
  | succ k ih =>
    intro w i p1 p2 p3 J O F
    refine aw_step (f1 := (11, [some (.ref 30), some (.int i)], [(.int i)])) (w1 := w) rfl rfl ?_
    refine aw_step (f1 := (12, [some (.ref 30), some (.int i)], [(.ref 30), (.int i)])) (w1 := w) rfl rfl ?_
    refine s_gi J 15 rfl rfl rfl rfl rfl rfl fun x1 x1a x1b x1f => ?_
    have x1v : x1.toInt = fI w 30 3 := by rw [← fI_of x1f]
    have hzz : fI w 30 3 = fI w00 30 3 := O.fIe (by decide)
    refine s_ic 35 18 rfl rfl rfl (fun (h2 : x1.toInt ≤ i.toInt) => ?_) (fun (h2 : ¬ (x1.toInt ≤ i.toInt)) => ?_)
    · --
      refine aw_step (f1 := (36, [some (.ref 30), some (.int i)], [(.ref 30)])) (w1 := w) rfl rfl ?_
      refine s_cv (z := 10) (p := 30) (as := []) (st1 := []) J 39 rfl rfl rfl rfl rfl rfl rfl rfl (Nat.le_of_ble_eq_true rfl) (Nat.le_of_ble_eq_true rfl) (e_swap31 ⟨(O.fv (by decide)).trans od.1, (O.fv (by decide)).trans od.2⟩ J.1) ?_
      rintro _ w3 ⟨rfl, J4c, w3o, w3d, w3z⟩
      have J4 := J.trans J4c
      refine ⟨am_len2 J J4c, ?_⟩
      show aw none _ 7 _ (39, [some (.ref 30), some (.int i)], []) w3
      refine aw_ret (v := none) rfl rfl ?_
      refine ⟨rfl, J4, (oc O (by decide)).trans (oc w3o (by decide)), w3d, w3z.trans (O.fIe (by decide)), fun e he => ?_⟩
      rw [w3o.rLe (by decide), F e he, show i.toInt.toNat = (fI w00 30 3).toNat by omega]
    · --
      refine aw_step (f1 := (19, [some (.ref 30), some (.int i)], [(.ref 30)])) (w1 := w) rfl rfl ?_
      refine aw_step (f1 := (20, [some (.ref 30), some (.int i)], [(.int i), (.ref 30)])) (w1 := w) rfl rfl ?_
      refine aw_step (f1 := (21, [some (.ref 30), some (.int i)], [(.ref 30), (.int i), (.ref 30)])) (w1 := w) rfl rfl ?_
      refine s_gk (q := 31) J 24 rfl rfl rfl rfl rfl rfl ((O.fv (by decide)).trans od.1) ?_
      refine aw_step (f1 := (25, [some (.ref 30), some (.int i)], [(.int i), (.ref 31), (.int i), (.ref 30)])) (w1 := w) rfl rfl ?_
      refine s_la J 26 rfl rfl rfl (by omega) (by omega) fun y5 y5a y5b y5f => ?_
      have hw : rL w00 31 i.toInt.toNat = n64 y5 := (O.rLe (by decide)).symm.trans (rL_of y5f)
      refine s_cv (z := 9) (p := 30) (as := [(.int i), (.long y5)]) (st1 := []) J 29 rfl rfl rfl rfl rfl rfl rfl rfl (Nat.le_of_ble_eq_true rfl) (Nat.le_of_ble_eq_true rfl) (e_hand32 i y5 ⟨by omega, by omega⟩ ((O.fv (by decide)).trans od.2) ⟨by omega, by omega⟩ J.1) ?_
      rintro _ w6 ⟨rfl, J7c, w6o, w6p⟩
      have J7 := J.trans J7c
      refine ⟨am_len2 J J7c, ?_⟩
      show aw none _ 7 _ (29, [some (.ref 30), some (.int i)], []) w6
      refine aw_step (f1 := (32, [some (.ref 30), some (.int (i + Int32.ofInt 1))], [])) (w1 := w6) rfl rfl ?_
      obtain ⟨x8, x8e⟩ : ∃ z, z = (i + Int32.ofInt 1) := ⟨_, rfl⟩
      have x8t : x8.toInt = i.toInt + (1) := by rw [x8e]; exact n_add (y := Int32.ofInt (1)) (by show _ ≤ _ + (1 : Int); omega) (by show _ + (1 : Int) ≤ _; omega)
      rw [← x8e]
      refine aw_step (f1 := (10, [some (.ref 30), some (.int x8)], [])) (w1 := w6) rfl rfl ?_
      refine ih w6 x8 (by omega) (by omega) (by omega) J7 (O.trans w6o) (fun e he => ?_)
      rw [show x8.toInt.toNat = i.toInt.toNat + 1 by omega]
      show _ = (smT (fun c => bt (rL w00 33 c) e * rL w00 31 c) i.toInt.toNat + bt (rL w00 33 i.toInt.toNat) e * rL w00 31 i.toInt.toNat) % 18446744073709551616
      rw [w6p e (by omega), F e he, O.rLe (p := 33) (by decide), ← hw, Nat.mod_add_mod]
theorem e_stAll31 {d : Nat} {w : am_W} (od : odW w 31 32) (hz : 0 ≤ fI w 30 3 ∧ fI w 30 3 ≤ 36) (I : ab_inv ab_TT ab_sets w) : aw none (d + 2) 7 (fun r w1 => r = none ∧ ab_J ab_TT ab_sets ab_WR w w1 ∧ only [30, 32] w w1 ∧ odW w1 32 31 ∧ fI w1 30 3 = fI w 30 3 ∧ ∀ e : Nat, (e : Int) < fI w 30 3 → rL w1 32 e = smT (fun c => bt (rL w 33 c) e * rL w 31 c) (fI w 30 3).toNat % 18446744073709551616) (0, am_entry 7 [.ref 30], []) w := by
  have J : ab_J ab_TT ab_sets ab_WR w w := ⟨I, ab_fr.rf⟩
  show aw none (d + 2) 7 _ (0, [some (.ref 30), none], []) w
  refine aw_step (f1 := (1, [some (.ref 30), none], [(.ref 30)])) (w1 := w) rfl rfl ?_
  refine s_gk (q := 32) J 4 rfl rfl rfl rfl rfl rfl (od.2) ?_
  refine s_l (pc1 := 5) (ls1 := [some (.ref 30), none]) (st1 := [(.ref 32)]) rfl rfl fun y1 e2 => ?_
  have e2t : y1.toInt = 0 := by rw [e2]; rfl
  --
  refine s_cs (z := 191) (as := [(.ref 32), (.long y1)]) (st1 := []) 8 rfl rfl rfl rfl rfl rfl (Nat.le_of_ble_eq_true rfl) (Nat.le_of_ble_eq_true rfl) (Nat.le_of_ble_eq_true rfl) (e_fl32 y1 J.1) ?_
  rintro _ w3 ⟨rfl, J4c, w3o, w3p⟩
  have J4 := J.trans J4c
  refine ⟨am_len2 J J4c, ?_⟩
  show aw none _ 7 _ (8, [some (.ref 30), none], []) w3
  refine s_i (pc1 := 9) (ls1 := [some (.ref 30), none]) (st1 := []) rfl rfl fun x5 e6 => ?_
  have e6t : x5.toInt = 0 := by rw [e6]; rfl
  refine aw_step (f1 := (10, [some (.ref 30), some (.int x5)], [])) (w1 := w3) rfl rfl ?_
  have e0 : x5.toInt.toNat = 0 := by omega
  exact e_stAll31L od hz 37 w3 x5 (by omega) (by omega) (by omega) J4 w3o (fun e he => by rw [w3p e (by omega), n64_z.mp e2t, e0]; rfl)
theorem e_stLot31L {d : Nat} {w00 : am_W} (od : odW w00 31 32) (hz : 0 ≤ fI w00 30 3 ∧ fI w00 30 3 ≤ 36) (hW : ∀ c : Nat, (c : Int) < fI w00 30 3 → rL w00 31 c < 9223372036854775808) : ∀ (k : Nat) (w : am_W) (i : Int32) (o2 : Option Value), (36 - i.toInt).toNat < k → 0 ≤ i.toInt → i.toInt ≤ fI w00 30 3 → ab_J ab_TT ab_sets ab_WR w00 w → only [32] w00 w → (∀ e : Nat, (e : Int) < fI w00 30 3 → rL w 32 e = ltT (rL w00 33) (rL w00 31) e i.toInt.toNat % 18446744073709551616) → aw none (d + 2) 8 (fun r w1 => r = none ∧ ab_J ab_TT ab_sets ab_WR w00 w1 ∧ only [30, 32] w00 w1 ∧ odW w1 32 31 ∧ fI w1 30 3 = fI w00 30 3 ∧ ∀ e : Nat, (e : Int) < fI w00 30 3 → rL w1 32 e = ltT (rL w00 33) (rL w00 31) e (fI w00 30 3).toNat % 18446744073709551616) (10, [some (.ref 30), some (.int i), o2], []) w := by
  intro k
  induction k with
  | zero => intro w i o2 p; omega
  | succ k ih =>
    intro w i o2 p1 p2 p3 J O F
    refine aw_step (f1 := (11, [some (.ref 30), some (.int i), o2], [(.int i)])) (w1 := w) rfl rfl ?_
    refine aw_step (f1 := (12, [some (.ref 30), some (.int i), o2], [(.ref 30), (.int i)])) (w1 := w) rfl rfl ?_
    refine s_gi J 15 rfl rfl rfl rfl rfl rfl fun x1 x1a x1b x1f => ?_
    have x1v : x1.toInt = fI w 30 3 := by rw [← fI_of x1f]
    have hzz : fI w 30 3 = fI w00 30 3 := O.fIe (by decide)
    refine s_ic 70 18 rfl rfl rfl (fun (h2 : x1.toInt ≤ i.toInt) => ?_) (fun (h2 : ¬ (x1.toInt ≤ i.toInt)) => ?_)
    · --
      refine aw_step (f1 := (71, [some (.ref 30), some (.int i), o2], [(.ref 30)])) (w1 := w) rfl rfl ?_
      refine s_cv (z := 10) (p := 30) (as := []) (st1 := []) J 74 rfl rfl rfl rfl rfl rfl rfl rfl (Nat.le_of_ble_eq_true rfl) (Nat.le_of_ble_eq_true rfl) (e_swap31 ⟨(O.fv (by decide)).trans od.1, (O.fv (by decide)).trans od.2⟩ J.1) ?_
      rintro _ w3 ⟨rfl, J4c, w3o, w3d, w3z⟩
      have J4 := J.trans J4c
      refine ⟨am_len2 J J4c, ?_⟩
      show aw none _ 8 _ (74, [some (.ref 30), some (.int i), o2], []) w3
      refine aw_ret (v := none) rfl rfl ?_
      refine ⟨rfl, J4, (oc O (by decide)).trans (oc w3o (by decide)), w3d, w3z.trans (O.fIe (by decide)), fun e he => ?_⟩
      rw [w3o.rLe (by decide), F e he, show i.toInt.toNat = (fI w00 30 3).toNat by omega]
    · --
      refine aw_step (f1 := (19, [some (.ref 30), some (.int i), o2], [(.ref 30)])) (w1 := w) rfl rfl ?_
      refine s_gr 33 J 22 rfl rfl rfl rfl rfl rfl ?_
      refine aw_step (f1 := (23, [some (.ref 30), some (.int i), o2], [(.int i), (.ref 33)])) (w1 := w) rfl rfl ?_
      refine s_la J 24 rfl rfl rfl (by omega) (by omega) fun y5 y5a y5b y5f => ?_
      have hg : rL w00 33 i.toInt.toNat = n64 y5 := (O.rLe (by decide)).symm.trans (rL_of y5f)
      refine s_cs (z := 188) (as := [(.long y5)]) (st1 := []) 27 rfl rfl rfl rfl rfl rfl (Nat.le_of_ble_eq_true rfl) (Nat.le_of_ble_eq_true rfl) (Nat.le_of_ble_eq_true rfl) (q_bc64 y5) ?_
      rintro _ _ ⟨rfl, x6, rfl, x6t⟩
      refine ⟨rfl, ?_⟩
      show aw none _ 8 _ (27, [some (.ref 30), some (.int i), o2], [(.int x6)]) w
      have x6c := cnt_le (n64 y5) 64
      refine aw_step (f1 := (28, [some (.ref 30), some (.int i), some (.int x6)], [])) (w1 := w) rfl rfl ?_
      refine aw_step (f1 := (29, [some (.ref 30), some (.int i), some (.int x6)], [(.int x6)])) (w1 := w) rfl rfl ?_
      refine s_if 50 32 rfl rfl rfl (fun (h7 : ¬ x6.toInt = 0) => ?_) (fun (h7 : ¬ (¬ x6.toInt = 0)) => ?_)
      · --
        refine aw_step (f1 := (51, [some (.ref 30), some (.int i), some (.int x6)], [(.ref 30)])) (w1 := w) rfl rfl ?_
        refine aw_step (f1 := (52, [some (.ref 30), some (.int i), some (.int x6)], [(.int i), (.ref 30)])) (w1 := w) rfl rfl ?_
        refine aw_step (f1 := (53, [some (.ref 30), some (.int i), some (.int x6)], [(.ref 30), (.int i), (.ref 30)])) (w1 := w) rfl rfl ?_
        refine s_gk (q := 31) J 56 rfl rfl rfl rfl rfl rfl ((O.fv (by decide)).trans od.1) ?_
        refine aw_step (f1 := (57, [some (.ref 30), some (.int i), some (.int x6)], [(.int i), (.ref 31), (.int i), (.ref 30)])) (w1 := w) rfl rfl ?_
        refine s_la J 58 rfl rfl rfl (by omega) (by omega) fun y8 y8a y8b y8f => ?_
        have hw : rL w00 31 i.toInt.toNat = n64 y8 := (O.rLe (by decide)).symm.trans (rL_of y8f)
        refine aw_step (f1 := (59, [some (.ref 30), some (.int i), some (.int x6)], [(.int x6), (.long y8), (.int i), (.ref 30)])) (w1 := w) rfl rfl ?_
        refine s_l (pc1 := 60) (ls1 := [some (.ref 30), some (.int i), some (.int x6)]) (st1 := [(.long y8), (.int i), (.ref 30)]) rfl rfl fun y9 e10 => ?_
        have e10t : y9.toInt = x6.toInt := by rw [e10]; exact Int32.toInt_toInt64 x6
        --
        refine s_dvl (f := fun x y => x / y) 61 rfl rfl (by omega) fun y11 e12 => ?_
        have e12 : y11 = y8 / y9 := e12
        have wl := hW i.toInt.toNat (by omega)
        rw [hw] at wl
        have w0 := n64_toInt (x := y8) (by omega)
        have dv := n64_div (x := y8) (y := y9) (by omega) (by omega)
        rw [← e12] at dv
        have dm : n64 y9 = cnt (n64 y5) 64 := by have := n64_of (x := y9) (by omega); omega
        refine s_cv (z := 9) (p := 30) (as := [(.int i), (.long y11)]) (st1 := []) J 64 rfl rfl rfl rfl rfl rfl rfl rfl (Nat.le_of_ble_eq_true rfl) (Nat.le_of_ble_eq_true rfl) (e_hand32 i y11 ⟨by omega, by omega⟩ ((O.fv (by decide)).trans od.2) ⟨by omega, by omega⟩ J.1) ?_
        rintro _ w13 ⟨rfl, J14c, w13o, w13p⟩
        have J14 := J.trans J14c
        refine ⟨am_len2 J J14c, ?_⟩
        show aw none _ 8 _ (64, [some (.ref 30), some (.int i), some (.int x6)], []) w13
        refine aw_step (f1 := (67, [some (.ref 30), some (.int (i + Int32.ofInt 1)), some (.int x6)], [])) (w1 := w13) rfl rfl ?_
        obtain ⟨x15, x15e⟩ : ∃ z, z = (i + Int32.ofInt 1) := ⟨_, rfl⟩
        have x15t : x15.toInt = i.toInt + (1) := by rw [x15e]; exact n_add (y := Int32.ofInt (1)) (by show _ ≤ _ + (1 : Int); omega) (by show _ + (1 : Int) ≤ _; omega)
        rw [← x15e]
        refine aw_step (f1 := (10, [some (.ref 30), some (.int x15), some (.int x6)], [])) (w1 := w13) rfl rfl ?_
        refine ih w13 x15 _ (by omega) (by omega) (by omega) J14 (O.trans w13o) (fun e he => ?_)
        rw [show x15.toInt.toNat = i.toInt.toNat + 1 by omega]
        have nz : n64 y5 ≠ 0 := fun q => by
          have t := x6t
          rw [q, cnt_z64] at t
          omega
        rw [ltT_h (by rw [hg]; exact nz), w13p e (by omega), F e he, O.rLe (p := 33) (by decide), hg, hw, dv.1, dm, Nat.mod_add_mod]
      · --
        refine aw_step (f1 := (33, [some (.ref 30), some (.int i), some (.int x6)], [(.ref 30)])) (w1 := w) rfl rfl ?_
        refine s_gk (q := 32) J 36 rfl rfl rfl rfl rfl rfl ((O.fv (by decide)).trans od.2) ?_
        refine aw_step (f1 := (37, [some (.ref 30), some (.int i), some (.int x6)], [(.int i), (.ref 32)])) (w1 := w) rfl rfl ?_
        refine aw_step (f1 := (38, [some (.ref 30), some (.int i), some (.int x6)], [(.int i), (.ref 32), (.int i), (.ref 32)])) (w1 := w) rfl rfl ?_
        refine s_la J 39 rfl rfl rfl (by omega) (by omega) fun y16 y16a y16b y16f => ?_
        have hy1 : rL w 32 i.toInt.toNat = n64 y16 := rL_of y16f
        refine aw_step (f1 := (40, [some (.ref 30), some (.int i), some (.int x6)], [(.ref 30), (.long y16), (.int i), (.ref 32)])) (w1 := w) rfl rfl ?_
        refine s_gk (q := 31) J 43 rfl rfl rfl rfl rfl rfl ((O.fv (by decide)).trans od.1) ?_
        refine aw_step (f1 := (44, [some (.ref 30), some (.int i), some (.int x6)], [(.int i), (.ref 31), (.long y16), (.int i), (.ref 32)])) (w1 := w) rfl rfl ?_
        refine s_la J 45 rfl rfl rfl (by omega) (by omega) fun y17 y17a y17b y17f => ?_
        have hw : rL w00 31 i.toInt.toNat = n64 y17 := (O.rLe (by decide)).symm.trans (rL_of y17f)
        refine s_l (pc1 := 46) (ls1 := [some (.ref 30), some (.int i), some (.int x6)]) (st1 := [(.int i), (.ref 32)]) rfl rfl fun y18 e19 => ?_
        have e19 : y18 = y16 + y17 := e19
        have y18A := ab_any64 y18
        unfold ab_lo64 ab_hi64 at y18A
        refine s_ls J 47 rfl rfl rfl rfl (by omega) (by omega) (by omega) (by omega) fun w20 J21 w20e => ?_
        have w20f := rL_st J.1 (p := 32) (j := i.toInt.toNat) rfl (by omega) w20e
        refine aw_step (f1 := (64, [some (.ref 30), some (.int i), some (.int x6)], [])) (w1 := w20) rfl rfl ?_
        refine aw_step (f1 := (67, [some (.ref 30), some (.int (i + Int32.ofInt 1)), some (.int x6)], [])) (w1 := w20) rfl rfl ?_
        obtain ⟨x22, x22e⟩ : ∃ z, z = (i + Int32.ofInt 1) := ⟨_, rfl⟩
        have x22t : x22.toInt = i.toInt + (1) := by rw [x22e]; exact n_add (y := Int32.ofInt (1)) (by show _ ≤ _ + (1 : Int); omega) (by show _ + (1 : Int) ≤ _; omega)
        rw [← x22e]
        refine aw_step (f1 := (10, [some (.ref 30), some (.int x22), some (.int x6)], [])) (w1 := w20) rfl rfl ?_
        refine ih w20 x22 _ (by omega) (by omega) (by omega) J21 (O.trans w20f.1) (fun e he => ?_)
        rw [show x22.toInt.toNat = i.toInt.toNat + 1 by omega]
        rw [ltT_z (by rw [hg]; exact cnt_0z (n64_lt _) (by omega))]
        by_cases q : e = i.toInt.toNat
        · rw [if_pos q, q, w20f.2.1, e19, n64_addm, ← hy1, ← hw, F i.toInt.toNat (by omega), Nat.mod_add_mod]
        · rw [if_neg q, w20f.2.2 e q, Nat.add_zero]; exact F e he
theorem e_stLot31 {d : Nat} {w : am_W} (od : odW w 31 32) (hz : 0 ≤ fI w 30 3 ∧ fI w 30 3 ≤ 36) (hW : ∀ c : Nat, (c : Int) < fI w 30 3 → rL w 31 c < 9223372036854775808) (I : ab_inv ab_TT ab_sets w) : aw none (d + 2) 8 (fun r w1 => r = none ∧ ab_J ab_TT ab_sets ab_WR w w1 ∧ only [30, 32] w w1 ∧ odW w1 32 31 ∧ fI w1 30 3 = fI w 30 3 ∧ ∀ e : Nat, (e : Int) < fI w 30 3 → rL w1 32 e = ltT (rL w 33) (rL w 31) e (fI w 30 3).toNat % 18446744073709551616) (0, am_entry 8 [.ref 30], []) w := by
  have J : ab_J ab_TT ab_sets ab_WR w w := ⟨I, ab_fr.rf⟩
  show aw none (d + 2) 8 _ (0, [some (.ref 30), none, none], []) w
  refine aw_step (f1 := (1, [some (.ref 30), none, none], [(.ref 30)])) (w1 := w) rfl rfl ?_
  refine s_gk (q := 32) J 4 rfl rfl rfl rfl rfl rfl (od.2) ?_
  refine s_l (pc1 := 5) (ls1 := [some (.ref 30), none, none]) (st1 := [(.ref 32)]) rfl rfl fun y1 e2 => ?_
  have e2t : y1.toInt = 0 := by rw [e2]; rfl
  --
  refine s_cs (z := 191) (as := [(.ref 32), (.long y1)]) (st1 := []) 8 rfl rfl rfl rfl rfl rfl (Nat.le_of_ble_eq_true rfl) (Nat.le_of_ble_eq_true rfl) (Nat.le_of_ble_eq_true rfl) (e_fl32 y1 J.1) ?_
  rintro _ w3 ⟨rfl, J4c, w3o, w3p⟩
  have J4 := J.trans J4c
  refine ⟨am_len2 J J4c, ?_⟩
  show aw none _ 8 _ (8, [some (.ref 30), none, none], []) w3
  refine s_i (pc1 := 9) (ls1 := [some (.ref 30), none, none]) (st1 := []) rfl rfl fun x5 e6 => ?_
  have e6t : x5.toInt = 0 := by rw [e6]; rfl
  refine aw_step (f1 := (10, [some (.ref 30), some (.int x5), none], [])) (w1 := w3) rfl rfl ?_
  have e0 : x5.toInt.toNat = 0 := by omega
  exact e_stLot31L od hz hW 37 w3 x5 _ (by omega) (by omega) (by omega) J4 w3o (fun e he => by rw [w3p e (by omega), n64_z.mp e2t, e0]; rw [ltT_0])
theorem e_swap32 {d : Nat} {w : am_W} (od : odW w 32 31) (I : ab_inv ab_TT ab_sets w) : aw none d 10 (fun r w1 => r = none ∧ ab_J ab_TT ab_sets ab_WR w w1 ∧ only [30] w w1 ∧ odW w1 31 32 ∧ fI w1 30 3 = fI w 30 3) (0, am_entry 10 [.ref 30], []) w := by
  have J : ab_J ab_TT ab_sets ab_WR w w := ⟨I, ab_fr.rf⟩
  show aw none d 10 _ (0, [some (.ref 30), none], []) w
  refine aw_step (f1 := (1, [some (.ref 30), none], [(.ref 30)])) (w1 := w) rfl rfl ?_
  refine s_gk (q := 32) J 4 rfl rfl rfl rfl rfl rfl (od.1) ?_
  refine aw_step (f1 := (5, [some (.ref 30), some (.ref 32)], [])) (w1 := w) rfl rfl ?_
  refine aw_step (f1 := (6, [some (.ref 30), some (.ref 32)], [(.ref 30)])) (w1 := w) rfl rfl ?_
  refine aw_step (f1 := (7, [some (.ref 30), some (.ref 32)], [(.ref 30), (.ref 30)])) (w1 := w) rfl rfl ?_
  refine s_gk (q := 31) J 10 rfl rfl rfl rfl rfl rfl (od.2) ?_
  refine s_p J 13 rfl rfl rfl rfl rfl rfl rfl rfl (Or.inr (Or.inr (Or.inr ⟨rfl, 31, rfl, by decide, by decide⟩))) fun w1 J2 w1e => ?_
  have w1f := fv_st J.1 (p := 30) (kf := 0) rfl (by decide) w1e
  refine aw_step (f1 := (14, [some (.ref 30), some (.ref 32)], [(.ref 30)])) (w1 := w1) rfl rfl ?_
  refine aw_step (f1 := (15, [some (.ref 30), some (.ref 32)], [(.ref 32), (.ref 30)])) (w1 := w1) rfl rfl ?_
  refine s_p J2 18 rfl rfl rfl rfl rfl rfl rfl rfl (Or.inr (Or.inr (Or.inr ⟨rfl, 32, rfl, by decide, by decide⟩))) fun w3 J4 w3e => ?_
  have w3f := fv_st J2.1 (p := 30) (kf := 1) rfl (by decide) w3e
  refine aw_ret (v := none) rfl rfl ?_
  exact ⟨rfl, J4, w1f.1.trans w3f.1, ⟨(w3f.2.2 0 (by decide)).trans w1f.2.1, w3f.2.1⟩, fI_eq ((w3f.2.2 3 (by decide)).trans (w1f.2.2 3 (by decide)))⟩
theorem e_hand31L {d : Nat} {w00 : am_W} (c : Int32) (s : Int64) (hc : 0 ≤ c.toInt ∧ c.toInt < 36) (hB : am_fv w00 30 1 = some (.ref 31)) (hz : 0 ≤ fI w00 30 3 ∧ fI w00 30 3 ≤ 36) : ∀ (k : Nat) (w : am_W) (i : Int32), (36 - i.toInt).toNat < k → 0 ≤ i.toInt → i.toInt ≤ fI w00 30 3 → ab_J ab_TT ab_sets ab_WR w00 w → only [31] w00 w → (∀ e : Nat, (e : Int) < i.toInt → rL w 31 e = (rL w00 31 e + bt (rL w00 33 c.toInt.toNat) e * n64 s) % 18446744073709551616) → (∀ e : Nat, i.toInt ≤ (e : Int) → rL w 31 e = rL w00 31 e) → aw none (d + 1) 9 (fun r w1 => r = none ∧ ab_J ab_TT ab_sets ab_WR w00 w1 ∧ only [31] w00 w1 ∧ ∀ e : Nat, (e : Int) < fI w00 30 3 → rL w1 31 e = (rL w00 31 e + bt (rL w00 33 c.toInt.toNat) e * n64 s) % 18446744073709551616) (3, [some (.ref 30), some (.int c), some (.long s), none, some (.int i)], []) w := by
  intro k
  induction k with
  | zero => intro w i p; omega
  | succ k ih =>
    intro w i p1 p2 p3 J O F G
    refine aw_step (f1 := (5, [some (.ref 30), some (.int c), some (.long s), none, some (.int i)], [(.int i)])) (w1 := w) rfl rfl ?_
    refine aw_step (f1 := (6, [some (.ref 30), some (.int c), some (.long s), none, some (.int i)], [(.ref 30), (.int i)])) (w1 := w) rfl rfl ?_
    refine s_gi J 9 rfl rfl rfl rfl rfl rfl fun x1 x1a x1b x1f => ?_
    have x1v : x1.toInt = fI w 30 3 := by rw [← fI_of x1f]
    have hzz : fI w 30 3 = fI w00 30 3 := O.fIe (by decide)
    refine s_ic 49 12 rfl rfl rfl (fun (h2 : x1.toInt ≤ i.toInt) => ?_) (fun (h2 : ¬ (x1.toInt ≤ i.toInt)) => ?_)
    · --
      refine aw_ret (v := none) rfl rfl ?_
      refine ⟨rfl, J, O, fun e he => ?_⟩
      by_cases q : (e : Int) < i.toInt
      · exact F e q
      · first
        | (exfalso; omega)
        | rw [G e (by omega), show n64 s = 0 from n64_z.mp (by omega), Nat.mul_zero, Nat.add_zero, Nat.mod_eq_of_lt (rL_lto _ _ _)]
    · --
      refine aw_step (f1 := (13, [some (.ref 30), some (.int c), some (.long s), none, some (.int i)], [(.long s)])) (w1 := w) rfl rfl ?_
      refine s_l (pc1 := 14) (ls1 := [some (.ref 30), some (.int c), some (.long s), none, some (.int i)]) (st1 := [(.long s)]) rfl rfl fun y3 e4 => ?_
      have e4t : y3.toInt = 0 := by rw [e4]; rfl
      refine s_lc 49 18 15 rfl rfl rfl rfl rfl (fun (h5 : s.toInt = y3.toInt) => ?_) (fun (h5 : ¬ (s.toInt = y3.toInt)) => ?_)
      · --
        refine aw_ret (v := none) rfl rfl ?_
        refine ⟨rfl, J, O, fun e he => ?_⟩
        by_cases q : (e : Int) < i.toInt
        · exact F e q
        · first
          | (exfalso; omega)
          | rw [G e (by omega), show n64 s = 0 from n64_z.mp (by omega), Nat.mul_zero, Nat.add_zero, Nat.mod_eq_of_lt (rL_lto _ _ _)]
      · --
        refine aw_step (f1 := (19, [some (.ref 30), some (.int c), some (.long s), none, some (.int i)], [(.ref 30)])) (w1 := w) rfl rfl ?_
        refine s_gr 33 J 22 rfl rfl rfl rfl rfl rfl ?_
        refine aw_step (f1 := (23, [some (.ref 30), some (.int c), some (.long s), none, some (.int i)], [(.int c), (.ref 33)])) (w1 := w) rfl rfl ?_
        refine s_la J 24 rfl rfl rfl (by omega) (by omega) fun y6 y6a y6b y6f => ?_
        have hg : rL w00 33 c.toInt.toNat = n64 y6 := (O.rLe (by decide)).symm.trans (rL_of y6f)
        refine aw_step (f1 := (26, [some (.ref 30), some (.int c), some (.long s), none, some (.int i)], [(.int i), (.long y6)])) (w1 := w) rfl rfl ?_
        refine s_cs (z := 105) (as := [(.long y6), (.int i)]) (st1 := []) 29 rfl rfl rfl rfl rfl rfl (Nat.le_of_ble_eq_true rfl) (Nat.le_of_ble_eq_true rfl) (Nat.le_of_ble_eq_true rfl) (q_hasC y6 i (by omega) (by omega)) ?_
        rintro _ _ ⟨rfl, x7, rfl, x7t⟩
        refine ⟨rfl, ?_⟩
        show aw none _ 9 _ (29, [some (.ref 30), some (.int c), some (.long s), none, some (.int i)], [(.int x7)]) w
        have x7l := bt_le (n64 y6) i.toInt.toNat
        refine s_if 43 32 rfl rfl rfl (fun (h8 : x7.toInt = 0) => ?_) (fun (h8 : ¬ (x7.toInt = 0)) => ?_)
        · --
          refine aw_step (f1 := (46, [some (.ref 30), some (.int c), some (.long s), none, some (.int (i + Int32.ofInt 1))], [])) (w1 := w) rfl rfl ?_
          obtain ⟨x9, x9e⟩ : ∃ z, z = (i + Int32.ofInt 1) := ⟨_, rfl⟩
          have x9t : x9.toInt = i.toInt + (1) := by rw [x9e]; exact n_add (y := Int32.ofInt (1)) (by show _ ≤ _ + (1 : Int); omega) (by show _ + (1 : Int) ≤ _; omega)
          rw [← x9e]
          refine aw_step (f1 := (3, [some (.ref 30), some (.int c), some (.long s), none, some (.int x9)], [])) (w1 := w) rfl rfl ?_
          refine ih w x9 (by omega) (by omega) (by omega) J O (fun e he => ?_) (fun e he => G e (by omega))
          by_cases q : (e : Int) < i.toInt
          · exact F e q
          · have ee : e = i.toInt.toNat := by omega
            rw [G e (by omega), ee, hg, show bt (n64 y6) i.toInt.toNat = 0 by omega, Nat.zero_mul, Nat.add_zero, Nat.mod_eq_of_lt (rL_lto _ _ _)]
        · --
          refine aw_step (f1 := (33, [some (.ref 30), some (.int c), some (.long s), none, some (.int i)], [(.ref 30)])) (w1 := w) rfl rfl ?_
          refine s_gk (q := 31) J 36 rfl rfl rfl rfl rfl rfl ((O.fv (by decide)).trans hB) ?_
          refine aw_step (f1 := (38, [some (.ref 30), some (.int c), some (.long s), none, some (.int i)], [(.int i), (.ref 31)])) (w1 := w) rfl rfl ?_
          refine aw_step (f1 := (39, [some (.ref 30), some (.int c), some (.long s), none, some (.int i)], [(.int i), (.ref 31), (.int i), (.ref 31)])) (w1 := w) rfl rfl ?_
          refine s_la J 40 rfl rfl rfl (by omega) (by omega) fun y10 y10a y10b y10f => ?_
          have hy1 : rL w00 31 i.toInt.toNat = n64 y10 := (G i.toInt.toNat (by omega)).symm.trans (rL_of y10f)
          refine aw_step (f1 := (41, [some (.ref 30), some (.int c), some (.long s), none, some (.int i)], [(.long s), (.long y10), (.int i), (.ref 31)])) (w1 := w) rfl rfl ?_
          refine s_l (pc1 := 42) (ls1 := [some (.ref 30), some (.int c), some (.long s), none, some (.int i)]) (st1 := [(.int i), (.ref 31)]) rfl rfl fun y11 e12 => ?_
          have e12 : y11 = y10 + s := e12
          have y11A := ab_any64 y11
          unfold ab_lo64 ab_hi64 at y11A
          refine s_ls J 43 rfl rfl rfl rfl (by omega) (by omega) (by omega) (by omega) fun w13 J14 w13e => ?_
          have w13f := rL_st J.1 (p := 31) (j := i.toInt.toNat) rfl (by omega) w13e
          refine aw_step (f1 := (46, [some (.ref 30), some (.int c), some (.long s), none, some (.int (i + Int32.ofInt 1))], [])) (w1 := w13) rfl rfl ?_
          obtain ⟨x15, x15e⟩ : ∃ z, z = (i + Int32.ofInt 1) := ⟨_, rfl⟩
          have x15t : x15.toInt = i.toInt + (1) := by rw [x15e]; exact n_add (y := Int32.ofInt (1)) (by show _ ≤ _ + (1 : Int); omega) (by show _ + (1 : Int) ≤ _; omega)
          rw [← x15e]
          refine aw_step (f1 := (3, [some (.ref 30), some (.int c), some (.long s), none, some (.int x15)], [])) (w1 := w13) rfl rfl ?_
          refine ih w13 x15 (by omega) (by omega) (by omega) J14 (O.trans w13f.1) (fun e he => ?_) (fun e he => by rw [w13f.2.2 e (by omega)]; exact G e (by omega))
          by_cases q : (e : Int) < i.toInt
          · rw [w13f.2.2 e (by omega)]; exact F e q
          · have ee : e = i.toInt.toNat := by omega
            rw [ee, w13f.2.1, e12, n64_addm, ← hy1, hg, show bt (n64 y6) i.toInt.toNat = 1 by omega, Nat.one_mul]
theorem e_hand31 {d : Nat} {w : am_W} (c : Int32) (s : Int64) (hc : 0 ≤ c.toInt ∧ c.toInt < 36) (hB : am_fv w 30 1 = some (.ref 31)) (hz : 0 ≤ fI w 30 3 ∧ fI w 30 3 ≤ 36) (I : ab_inv ab_TT ab_sets w) : aw none (d + 1) 9 (fun r w1 => r = none ∧ ab_J ab_TT ab_sets ab_WR w w1 ∧ only [31] w w1 ∧ ∀ e : Nat, (e : Int) < fI w 30 3 → rL w1 31 e = (rL w 31 e + bt (rL w 33 c.toInt.toNat) e * n64 s) % 18446744073709551616) (0, am_entry 9 [.ref 30, .int c, .long s], []) w := by
  have J : ab_J ab_TT ab_sets ab_WR w w := ⟨I, ab_fr.rf⟩
  show aw none (d + 1) 9 _ (0, [some (.ref 30), some (.int c), some (.long s), none, none], []) w
  refine s_i (pc1 := 1) (ls1 := [some (.ref 30), some (.int c), some (.long s), none, none]) (st1 := []) rfl rfl fun x1 e2 => ?_
  have e2t : x1.toInt = 0 := by rw [e2]; rfl
  refine aw_step (f1 := (3, [some (.ref 30), some (.int c), some (.long s), none, some (.int x1)], [])) (w1 := w) rfl rfl ?_
  exact e_hand31L c s hc hB hz 37 w x1 (by omega) (by omega) (by omega) J only.rf (fun e he => by omega) (fun e he => rfl)
theorem e_stAll32L {d : Nat} {w00 : am_W} (od : odW w00 32 31) (hz : 0 ≤ fI w00 30 3 ∧ fI w00 30 3 ≤ 36) : ∀ (k : Nat) (w : am_W) (i : Int32), (36 - i.toInt).toNat < k → 0 ≤ i.toInt → i.toInt ≤ fI w00 30 3 → ab_J ab_TT ab_sets ab_WR w00 w → only [31] w00 w → (∀ e : Nat, (e : Int) < fI w00 30 3 → rL w 31 e = smT (fun c => bt (rL w00 33 c) e * rL w00 32 c) i.toInt.toNat % 18446744073709551616) → aw none (d + 2) 7 (fun r w1 => r = none ∧ ab_J ab_TT ab_sets ab_WR w00 w1 ∧ only [30, 31] w00 w1 ∧ odW w1 31 32 ∧ fI w1 30 3 = fI w00 30 3 ∧ ∀ e : Nat, (e : Int) < fI w00 30 3 → rL w1 31 e = smT (fun c => bt (rL w00 33 c) e * rL w00 32 c) (fI w00 30 3).toNat % 18446744073709551616) (10, [some (.ref 30), some (.int i)], []) w := by
  intro k
  induction k with
  | zero => intro w i p; omega
  | succ k ih =>
    intro w i p1 p2 p3 J O F
    refine aw_step (f1 := (11, [some (.ref 30), some (.int i)], [(.int i)])) (w1 := w) rfl rfl ?_
    refine aw_step (f1 := (12, [some (.ref 30), some (.int i)], [(.ref 30), (.int i)])) (w1 := w) rfl rfl ?_
    refine s_gi J 15 rfl rfl rfl rfl rfl rfl fun x1 x1a x1b x1f => ?_
    have x1v : x1.toInt = fI w 30 3 := by rw [← fI_of x1f]
    have hzz : fI w 30 3 = fI w00 30 3 := O.fIe (by decide)
    refine s_ic 35 18 rfl rfl rfl (fun (h2 : x1.toInt ≤ i.toInt) => ?_) (fun (h2 : ¬ (x1.toInt ≤ i.toInt)) => ?_)
    · --
      refine aw_step (f1 := (36, [some (.ref 30), some (.int i)], [(.ref 30)])) (w1 := w) rfl rfl ?_
      refine s_cv (z := 10) (p := 30) (as := []) (st1 := []) J 39 rfl rfl rfl rfl rfl rfl rfl rfl (Nat.le_of_ble_eq_true rfl) (Nat.le_of_ble_eq_true rfl) (e_swap32 ⟨(O.fv (by decide)).trans od.1, (O.fv (by decide)).trans od.2⟩ J.1) ?_
      rintro _ w3 ⟨rfl, J4c, w3o, w3d, w3z⟩
      have J4 := J.trans J4c
      refine ⟨am_len2 J J4c, ?_⟩
      show aw none _ 7 _ (39, [some (.ref 30), some (.int i)], []) w3
      refine aw_ret (v := none) rfl rfl ?_
      refine ⟨rfl, J4, (oc O (by decide)).trans (oc w3o (by decide)), w3d, w3z.trans (O.fIe (by decide)), fun e he => ?_⟩
      rw [w3o.rLe (by decide), F e he, show i.toInt.toNat = (fI w00 30 3).toNat by omega]
    · --
      refine aw_step (f1 := (19, [some (.ref 30), some (.int i)], [(.ref 30)])) (w1 := w) rfl rfl ?_
      refine aw_step (f1 := (20, [some (.ref 30), some (.int i)], [(.int i), (.ref 30)])) (w1 := w) rfl rfl ?_
      refine aw_step (f1 := (21, [some (.ref 30), some (.int i)], [(.ref 30), (.int i), (.ref 30)])) (w1 := w) rfl rfl ?_
      refine s_gk (q := 32) J 24 rfl rfl rfl rfl rfl rfl ((O.fv (by decide)).trans od.1) ?_
      refine aw_step (f1 := (25, [some (.ref 30), some (.int i)], [(.int i), (.ref 32), (.int i), (.ref 30)])) (w1 := w) rfl rfl ?_
      refine s_la J 26 rfl rfl rfl (by omega) (by omega) fun y5 y5a y5b y5f => ?_
      have hw : rL w00 32 i.toInt.toNat = n64 y5 := (O.rLe (by decide)).symm.trans (rL_of y5f)
      refine s_cv (z := 9) (p := 30) (as := [(.int i), (.long y5)]) (st1 := []) J 29 rfl rfl rfl rfl rfl rfl rfl rfl (Nat.le_of_ble_eq_true rfl) (Nat.le_of_ble_eq_true rfl) (e_hand31 i y5 ⟨by omega, by omega⟩ ((O.fv (by decide)).trans od.2) ⟨by omega, by omega⟩ J.1) ?_
      rintro _ w6 ⟨rfl, J7c, w6o, w6p⟩
      have J7 := J.trans J7c
      refine ⟨am_len2 J J7c, ?_⟩
      show aw none _ 7 _ (29, [some (.ref 30), some (.int i)], []) w6
      refine aw_step (f1 := (32, [some (.ref 30), some (.int (i + Int32.ofInt 1))], [])) (w1 := w6) rfl rfl ?_
      obtain ⟨x8, x8e⟩ : ∃ z, z = (i + Int32.ofInt 1) := ⟨_, rfl⟩
      have x8t : x8.toInt = i.toInt + (1) := by rw [x8e]; exact n_add (y := Int32.ofInt (1)) (by show _ ≤ _ + (1 : Int); omega) (by show _ + (1 : Int) ≤ _; omega)
      rw [← x8e]
      refine aw_step (f1 := (10, [some (.ref 30), some (.int x8)], [])) (w1 := w6) rfl rfl ?_
      refine ih w6 x8 (by omega) (by omega) (by omega) J7 (O.trans w6o) (fun e he => ?_)
      rw [show x8.toInt.toNat = i.toInt.toNat + 1 by omega]
      show _ = (smT (fun c => bt (rL w00 33 c) e * rL w00 32 c) i.toInt.toNat + bt (rL w00 33 i.toInt.toNat) e * rL w00 32 i.toInt.toNat) % 18446744073709551616
      rw [w6p e (by omega), F e he, O.rLe (p := 33) (by decide), ← hw, Nat.mod_add_mod]
theorem e_stAll32 {d : Nat} {w : am_W} (od : odW w 32 31) (hz : 0 ≤ fI w 30 3 ∧ fI w 30 3 ≤ 36) (I : ab_inv ab_TT ab_sets w) : aw none (d + 2) 7 (fun r w1 => r = none ∧ ab_J ab_TT ab_sets ab_WR w w1 ∧ only [30, 31] w w1 ∧ odW w1 31 32 ∧ fI w1 30 3 = fI w 30 3 ∧ ∀ e : Nat, (e : Int) < fI w 30 3 → rL w1 31 e = smT (fun c => bt (rL w 33 c) e * rL w 32 c) (fI w 30 3).toNat % 18446744073709551616) (0, am_entry 7 [.ref 30], []) w := by
  have J : ab_J ab_TT ab_sets ab_WR w w := ⟨I, ab_fr.rf⟩
  show aw none (d + 2) 7 _ (0, [some (.ref 30), none], []) w
  refine aw_step (f1 := (1, [some (.ref 30), none], [(.ref 30)])) (w1 := w) rfl rfl ?_
  refine s_gk (q := 31) J 4 rfl rfl rfl rfl rfl rfl (od.2) ?_
  refine s_l (pc1 := 5) (ls1 := [some (.ref 30), none]) (st1 := [(.ref 31)]) rfl rfl fun y1 e2 => ?_
  have e2t : y1.toInt = 0 := by rw [e2]; rfl
  --
  refine s_cs (z := 191) (as := [(.ref 31), (.long y1)]) (st1 := []) 8 rfl rfl rfl rfl rfl rfl (Nat.le_of_ble_eq_true rfl) (Nat.le_of_ble_eq_true rfl) (Nat.le_of_ble_eq_true rfl) (e_fl31 y1 J.1) ?_
  rintro _ w3 ⟨rfl, J4c, w3o, w3p⟩
  have J4 := J.trans J4c
  refine ⟨am_len2 J J4c, ?_⟩
  show aw none _ 7 _ (8, [some (.ref 30), none], []) w3
  refine s_i (pc1 := 9) (ls1 := [some (.ref 30), none]) (st1 := []) rfl rfl fun x5 e6 => ?_
  have e6t : x5.toInt = 0 := by rw [e6]; rfl
  refine aw_step (f1 := (10, [some (.ref 30), some (.int x5)], [])) (w1 := w3) rfl rfl ?_
  have e0 : x5.toInt.toNat = 0 := by omega
  exact e_stAll32L od hz 37 w3 x5 (by omega) (by omega) (by omega) J4 w3o (fun e he => by rw [w3p e (by omega), n64_z.mp e2t, e0]; rfl)
theorem e_stLot32L {d : Nat} {w00 : am_W} (od : odW w00 32 31) (hz : 0 ≤ fI w00 30 3 ∧ fI w00 30 3 ≤ 36) (hW : ∀ c : Nat, (c : Int) < fI w00 30 3 → rL w00 32 c < 9223372036854775808) : ∀ (k : Nat) (w : am_W) (i : Int32) (o2 : Option Value), (36 - i.toInt).toNat < k → 0 ≤ i.toInt → i.toInt ≤ fI w00 30 3 → ab_J ab_TT ab_sets ab_WR w00 w → only [31] w00 w → (∀ e : Nat, (e : Int) < fI w00 30 3 → rL w 31 e = ltT (rL w00 33) (rL w00 32) e i.toInt.toNat % 18446744073709551616) → aw none (d + 2) 8 (fun r w1 => r = none ∧ ab_J ab_TT ab_sets ab_WR w00 w1 ∧ only [30, 31] w00 w1 ∧ odW w1 31 32 ∧ fI w1 30 3 = fI w00 30 3 ∧ ∀ e : Nat, (e : Int) < fI w00 30 3 → rL w1 31 e = ltT (rL w00 33) (rL w00 32) e (fI w00 30 3).toNat % 18446744073709551616) (10, [some (.ref 30), some (.int i), o2], []) w := by
  intro k
  induction k with
  | zero => intro w i o2 p; omega
  | succ k ih =>
    intro w i o2 p1 p2 p3 J O F
    refine aw_step (f1 := (11, [some (.ref 30), some (.int i), o2], [(.int i)])) (w1 := w) rfl rfl ?_
    refine aw_step (f1 := (12, [some (.ref 30), some (.int i), o2], [(.ref 30), (.int i)])) (w1 := w) rfl rfl ?_
    refine s_gi J 15 rfl rfl rfl rfl rfl rfl fun x1 x1a x1b x1f => ?_
    have x1v : x1.toInt = fI w 30 3 := by rw [← fI_of x1f]
    have hzz : fI w 30 3 = fI w00 30 3 := O.fIe (by decide)
    refine s_ic 70 18 rfl rfl rfl (fun (h2 : x1.toInt ≤ i.toInt) => ?_) (fun (h2 : ¬ (x1.toInt ≤ i.toInt)) => ?_)
    · --
      refine aw_step (f1 := (71, [some (.ref 30), some (.int i), o2], [(.ref 30)])) (w1 := w) rfl rfl ?_
      refine s_cv (z := 10) (p := 30) (as := []) (st1 := []) J 74 rfl rfl rfl rfl rfl rfl rfl rfl (Nat.le_of_ble_eq_true rfl) (Nat.le_of_ble_eq_true rfl) (e_swap32 ⟨(O.fv (by decide)).trans od.1, (O.fv (by decide)).trans od.2⟩ J.1) ?_
      rintro _ w3 ⟨rfl, J4c, w3o, w3d, w3z⟩
      have J4 := J.trans J4c
      refine ⟨am_len2 J J4c, ?_⟩
      show aw none _ 8 _ (74, [some (.ref 30), some (.int i), o2], []) w3
      refine aw_ret (v := none) rfl rfl ?_
      refine ⟨rfl, J4, (oc O (by decide)).trans (oc w3o (by decide)), w3d, w3z.trans (O.fIe (by decide)), fun e he => ?_⟩
      rw [w3o.rLe (by decide), F e he, show i.toInt.toNat = (fI w00 30 3).toNat by omega]
    · --
      refine aw_step (f1 := (19, [some (.ref 30), some (.int i), o2], [(.ref 30)])) (w1 := w) rfl rfl ?_
      refine s_gr 33 J 22 rfl rfl rfl rfl rfl rfl ?_
      refine aw_step (f1 := (23, [some (.ref 30), some (.int i), o2], [(.int i), (.ref 33)])) (w1 := w) rfl rfl ?_
      refine s_la J 24 rfl rfl rfl (by omega) (by omega) fun y5 y5a y5b y5f => ?_
      have hg : rL w00 33 i.toInt.toNat = n64 y5 := (O.rLe (by decide)).symm.trans (rL_of y5f)
      refine s_cs (z := 188) (as := [(.long y5)]) (st1 := []) 27 rfl rfl rfl rfl rfl rfl (Nat.le_of_ble_eq_true rfl) (Nat.le_of_ble_eq_true rfl) (Nat.le_of_ble_eq_true rfl) (q_bc64 y5) ?_
      rintro _ _ ⟨rfl, x6, rfl, x6t⟩
      refine ⟨rfl, ?_⟩
      show aw none _ 8 _ (27, [some (.ref 30), some (.int i), o2], [(.int x6)]) w
      have x6c := cnt_le (n64 y5) 64
      refine aw_step (f1 := (28, [some (.ref 30), some (.int i), some (.int x6)], [])) (w1 := w) rfl rfl ?_
      refine aw_step (f1 := (29, [some (.ref 30), some (.int i), some (.int x6)], [(.int x6)])) (w1 := w) rfl rfl ?_
      refine s_if 50 32 rfl rfl rfl (fun (h7 : ¬ x6.toInt = 0) => ?_) (fun (h7 : ¬ (¬ x6.toInt = 0)) => ?_)
      · --
        refine aw_step (f1 := (51, [some (.ref 30), some (.int i), some (.int x6)], [(.ref 30)])) (w1 := w) rfl rfl ?_
        refine aw_step (f1 := (52, [some (.ref 30), some (.int i), some (.int x6)], [(.int i), (.ref 30)])) (w1 := w) rfl rfl ?_
        refine aw_step (f1 := (53, [some (.ref 30), some (.int i), some (.int x6)], [(.ref 30), (.int i), (.ref 30)])) (w1 := w) rfl rfl ?_
        refine s_gk (q := 32) J 56 rfl rfl rfl rfl rfl rfl ((O.fv (by decide)).trans od.1) ?_
        refine aw_step (f1 := (57, [some (.ref 30), some (.int i), some (.int x6)], [(.int i), (.ref 32), (.int i), (.ref 30)])) (w1 := w) rfl rfl ?_
        refine s_la J 58 rfl rfl rfl (by omega) (by omega) fun y8 y8a y8b y8f => ?_
        have hw : rL w00 32 i.toInt.toNat = n64 y8 := (O.rLe (by decide)).symm.trans (rL_of y8f)
        refine aw_step (f1 := (59, [some (.ref 30), some (.int i), some (.int x6)], [(.int x6), (.long y8), (.int i), (.ref 30)])) (w1 := w) rfl rfl ?_
        refine s_l (pc1 := 60) (ls1 := [some (.ref 30), some (.int i), some (.int x6)]) (st1 := [(.long y8), (.int i), (.ref 30)]) rfl rfl fun y9 e10 => ?_
        have e10t : y9.toInt = x6.toInt := by rw [e10]; exact Int32.toInt_toInt64 x6
        --
        refine s_dvl (f := fun x y => x / y) 61 rfl rfl (by omega) fun y11 e12 => ?_
        have e12 : y11 = y8 / y9 := e12
        have wl := hW i.toInt.toNat (by omega)
        rw [hw] at wl
        have w0 := n64_toInt (x := y8) (by omega)
        have dv := n64_div (x := y8) (y := y9) (by omega) (by omega)
        rw [← e12] at dv
        have dm : n64 y9 = cnt (n64 y5) 64 := by have := n64_of (x := y9) (by omega); omega
        refine s_cv (z := 9) (p := 30) (as := [(.int i), (.long y11)]) (st1 := []) J 64 rfl rfl rfl rfl rfl rfl rfl rfl (Nat.le_of_ble_eq_true rfl) (Nat.le_of_ble_eq_true rfl) (e_hand31 i y11 ⟨by omega, by omega⟩ ((O.fv (by decide)).trans od.2) ⟨by omega, by omega⟩ J.1) ?_
        rintro _ w13 ⟨rfl, J14c, w13o, w13p⟩
        have J14 := J.trans J14c
        refine ⟨am_len2 J J14c, ?_⟩
        show aw none _ 8 _ (64, [some (.ref 30), some (.int i), some (.int x6)], []) w13
        refine aw_step (f1 := (67, [some (.ref 30), some (.int (i + Int32.ofInt 1)), some (.int x6)], [])) (w1 := w13) rfl rfl ?_
        obtain ⟨x15, x15e⟩ : ∃ z, z = (i + Int32.ofInt 1) := ⟨_, rfl⟩
        have x15t : x15.toInt = i.toInt + (1) := by rw [x15e]; exact n_add (y := Int32.ofInt (1)) (by show _ ≤ _ + (1 : Int); omega) (by show _ + (1 : Int) ≤ _; omega)
        rw [← x15e]
        refine aw_step (f1 := (10, [some (.ref 30), some (.int x15), some (.int x6)], [])) (w1 := w13) rfl rfl ?_
        refine ih w13 x15 _ (by omega) (by omega) (by omega) J14 (O.trans w13o) (fun e he => ?_)
        rw [show x15.toInt.toNat = i.toInt.toNat + 1 by omega]
        have nz : n64 y5 ≠ 0 := fun q => by
          have t := x6t
          rw [q, cnt_z64] at t
          omega
        rw [ltT_h (by rw [hg]; exact nz), w13p e (by omega), F e he, O.rLe (p := 33) (by decide), hg, hw, dv.1, dm, Nat.mod_add_mod]
      · --
        refine aw_step (f1 := (33, [some (.ref 30), some (.int i), some (.int x6)], [(.ref 30)])) (w1 := w) rfl rfl ?_
        refine s_gk (q := 31) J 36 rfl rfl rfl rfl rfl rfl ((O.fv (by decide)).trans od.2) ?_
        refine aw_step (f1 := (37, [some (.ref 30), some (.int i), some (.int x6)], [(.int i), (.ref 31)])) (w1 := w) rfl rfl ?_
        refine aw_step (f1 := (38, [some (.ref 30), some (.int i), some (.int x6)], [(.int i), (.ref 31), (.int i), (.ref 31)])) (w1 := w) rfl rfl ?_
        refine s_la J 39 rfl rfl rfl (by omega) (by omega) fun y16 y16a y16b y16f => ?_
        have hy1 : rL w 31 i.toInt.toNat = n64 y16 := rL_of y16f
        refine aw_step (f1 := (40, [some (.ref 30), some (.int i), some (.int x6)], [(.ref 30), (.long y16), (.int i), (.ref 31)])) (w1 := w) rfl rfl ?_
        refine s_gk (q := 32) J 43 rfl rfl rfl rfl rfl rfl ((O.fv (by decide)).trans od.1) ?_
        refine aw_step (f1 := (44, [some (.ref 30), some (.int i), some (.int x6)], [(.int i), (.ref 32), (.long y16), (.int i), (.ref 31)])) (w1 := w) rfl rfl ?_
        refine s_la J 45 rfl rfl rfl (by omega) (by omega) fun y17 y17a y17b y17f => ?_
        have hw : rL w00 32 i.toInt.toNat = n64 y17 := (O.rLe (by decide)).symm.trans (rL_of y17f)
        refine s_l (pc1 := 46) (ls1 := [some (.ref 30), some (.int i), some (.int x6)]) (st1 := [(.int i), (.ref 31)]) rfl rfl fun y18 e19 => ?_
        have e19 : y18 = y16 + y17 := e19
        have y18A := ab_any64 y18
        unfold ab_lo64 ab_hi64 at y18A
        refine s_ls J 47 rfl rfl rfl rfl (by omega) (by omega) (by omega) (by omega) fun w20 J21 w20e => ?_
        have w20f := rL_st J.1 (p := 31) (j := i.toInt.toNat) rfl (by omega) w20e
        refine aw_step (f1 := (64, [some (.ref 30), some (.int i), some (.int x6)], [])) (w1 := w20) rfl rfl ?_
        refine aw_step (f1 := (67, [some (.ref 30), some (.int (i + Int32.ofInt 1)), some (.int x6)], [])) (w1 := w20) rfl rfl ?_
        obtain ⟨x22, x22e⟩ : ∃ z, z = (i + Int32.ofInt 1) := ⟨_, rfl⟩
        have x22t : x22.toInt = i.toInt + (1) := by rw [x22e]; exact n_add (y := Int32.ofInt (1)) (by show _ ≤ _ + (1 : Int); omega) (by show _ + (1 : Int) ≤ _; omega)
        rw [← x22e]
        refine aw_step (f1 := (10, [some (.ref 30), some (.int x22), some (.int x6)], [])) (w1 := w20) rfl rfl ?_
        refine ih w20 x22 _ (by omega) (by omega) (by omega) J21 (O.trans w20f.1) (fun e he => ?_)
        rw [show x22.toInt.toNat = i.toInt.toNat + 1 by omega]
        rw [ltT_z (by rw [hg]; exact cnt_0z (n64_lt _) (by omega))]
        by_cases q : e = i.toInt.toNat
        · rw [if_pos q, q, w20f.2.1, e19, n64_addm, ← hy1, ← hw, F i.toInt.toNat (by omega), Nat.mod_add_mod]
        · rw [if_neg q, w20f.2.2 e q, Nat.add_zero]; exact F e he
theorem e_stLot32 {d : Nat} {w : am_W} (od : odW w 32 31) (hz : 0 ≤ fI w 30 3 ∧ fI w 30 3 ≤ 36) (hW : ∀ c : Nat, (c : Int) < fI w 30 3 → rL w 32 c < 9223372036854775808) (I : ab_inv ab_TT ab_sets w) : aw none (d + 2) 8 (fun r w1 => r = none ∧ ab_J ab_TT ab_sets ab_WR w w1 ∧ only [30, 31] w w1 ∧ odW w1 31 32 ∧ fI w1 30 3 = fI w 30 3 ∧ ∀ e : Nat, (e : Int) < fI w 30 3 → rL w1 31 e = ltT (rL w 33) (rL w 32) e (fI w 30 3).toNat % 18446744073709551616) (0, am_entry 8 [.ref 30], []) w := by
  have J : ab_J ab_TT ab_sets ab_WR w w := ⟨I, ab_fr.rf⟩
  show aw none (d + 2) 8 _ (0, [some (.ref 30), none, none], []) w
  refine aw_step (f1 := (1, [some (.ref 30), none, none], [(.ref 30)])) (w1 := w) rfl rfl ?_
  refine s_gk (q := 31) J 4 rfl rfl rfl rfl rfl rfl (od.2) ?_
  refine s_l (pc1 := 5) (ls1 := [some (.ref 30), none, none]) (st1 := [(.ref 31)]) rfl rfl fun y1 e2 => ?_
  have e2t : y1.toInt = 0 := by rw [e2]; rfl
  --
  refine s_cs (z := 191) (as := [(.ref 31), (.long y1)]) (st1 := []) 8 rfl rfl rfl rfl rfl rfl (Nat.le_of_ble_eq_true rfl) (Nat.le_of_ble_eq_true rfl) (Nat.le_of_ble_eq_true rfl) (e_fl31 y1 J.1) ?_
  rintro _ w3 ⟨rfl, J4c, w3o, w3p⟩
  have J4 := J.trans J4c
  refine ⟨am_len2 J J4c, ?_⟩
  show aw none _ 8 _ (8, [some (.ref 30), none, none], []) w3
  refine s_i (pc1 := 9) (ls1 := [some (.ref 30), none, none]) (st1 := []) rfl rfl fun x5 e6 => ?_
  have e6t : x5.toInt = 0 := by rw [e6]; rfl
  refine aw_step (f1 := (10, [some (.ref 30), some (.int x5), none], [])) (w1 := w3) rfl rfl ?_
  have e0 : x5.toInt.toNat = 0 := by omega
  exact e_stLot32L od hz hW 37 w3 x5 _ (by omega) (by omega) (by omega) J4 w3o (fun e he => by rw [w3p e (by omega), n64_z.mp e2t, e0]; rw [ltT_0])
theorem e_obL {d : Nat} {w00 : am_W} {V : Nat → Int} (R : RCs w00 3 V) (L f : Int32) (v : Int64) (hL : 1 ≤ L.toInt ∧ L.toInt ≤ 50) (hz : fI w00 30 3 = szV V) (zz : 1 ≤ szV V ∧ szV V ≤ 36) : ∀ (k : Nat) (w : am_W) (i : Int32), (36 - i.toInt).toNat < k → 0 ≤ i.toInt → i.toInt ≤ szV V → ab_J ab_TT ab_sets ab_WR w00 w → only [33] w00 w → (∀ c : Nat, (c : Int) < i.toInt → lsV V L.toInt c (rL w 33 c)) → aw none (d + 2) 6 (fun r w1 => r = none ∧ ab_J ab_TT ab_sets ab_WR w00 w1 ∧ only [33] w00 w1 ∧ ∀ c : Nat, (c : Int) < szV V → lsV V L.toInt c (rL w1 33 c)) (27, [some (.ref 30), some (.ref 3), some (.int L), some (.int f), some (.long v), none, some (.int i)], []) w := by
  intro k
  induction k with
  | zero => intro w i p; omega
  | succ k ih =>
    intro w i p1 p2 p3 J O F
    refine aw_step (f1 := (29, [some (.ref 30), some (.ref 3), some (.int L), some (.int f), some (.long v), none, some (.int i)], [(.int i)])) (w1 := w) rfl rfl ?_
    refine aw_step (f1 := (30, [some (.ref 30), some (.ref 3), some (.int L), some (.int f), some (.long v), none, some (.int i)], [(.ref 30), (.int i)])) (w1 := w) rfl rfl ?_
    refine s_gi J 33 rfl rfl rfl rfl rfl rfl fun x1 x1a x1b x1f => ?_
    have x1v : x1.toInt = fI w 30 3 := by rw [← fI_of x1f]
    have hzz : fI w 30 3 = fI w00 30 3 := O.fIe (by decide)
    refine s_ic 56 36 rfl rfl rfl (fun (h2 : x1.toInt ≤ i.toInt) => ?_) (fun (h2 : ¬ (x1.toInt ≤ i.toInt)) => ?_)
    · --
      refine aw_ret (v := none) rfl rfl ?_
      exact ⟨rfl, J, O, fun c hc => F c (by omega)⟩
    · --
      refine aw_step (f1 := (37, [some (.ref 30), some (.ref 3), some (.int L), some (.int f), some (.long v), none, some (.int i)], [(.ref 30)])) (w1 := w) rfl rfl ?_
      refine s_gr 33 J 40 rfl rfl rfl rfl rfl rfl ?_
      refine aw_step (f1 := (42, [some (.ref 30), some (.ref 3), some (.int L), some (.int f), some (.long v), none, some (.int i)], [(.int i), (.ref 33)])) (w1 := w) rfl rfl ?_
      refine aw_step (f1 := (43, [some (.ref 30), some (.ref 3), some (.int L), some (.int f), some (.long v), none, some (.int i)], [(.ref 3), (.int i), (.ref 33)])) (w1 := w) rfl rfl ?_
      refine aw_step (f1 := (44, [some (.ref 30), some (.ref 3), some (.int L), some (.int f), some (.long v), none, some (.int i)], [(.int L), (.ref 3), (.int i), (.ref 33)])) (w1 := w) rfl rfl ?_
      refine aw_step (f1 := (46, [some (.ref 30), some (.ref 3), some (.int L), some (.int f), some (.long v), none, some (.int i)], [(.int i), (.int L), (.ref 3), (.int i), (.ref 33)])) (w1 := w) rfl rfl ?_
      refine s_cv (z := 44) (p := 3) (as := [(.int L), (.int i)]) (st1 := [(.int i), (.ref 33)]) J 49 rfl rfl rfl rfl rfl rfl rfl rfl (Nat.le_of_ble_eq_true rfl) (Nat.le_of_ble_eq_true rfl) (e_reach (R.of O (by decide)) L i ⟨by omega, by omega⟩ ⟨by omega, by omega⟩ J.1) ?_
      rintro _ _ ⟨rfl, y3, rfl, y3t⟩
      refine ⟨rfl, ?_⟩
      show aw none _ 6 _ (49, [some (.ref 30), some (.ref 3), some (.int L), some (.int f), some (.long v), none, some (.int i)], [(.long y3), (.int i), (.ref 33)]) w
      have y3A := ab_any64 y3
      unfold ab_lo64 ab_hi64 at y3A
      refine s_ls J 50 rfl rfl rfl rfl (by omega) (by omega) (by omega) (by omega) fun w4 J5 w4e => ?_
      have w4f := rL_st J.1 (p := 33) (j := i.toInt.toNat) rfl (by omega) w4e
      refine aw_step (f1 := (53, [some (.ref 30), some (.ref 3), some (.int L), some (.int f), some (.long v), none, some (.int (i + Int32.ofInt 1))], [])) (w1 := w4) rfl rfl ?_
      obtain ⟨x6, x6e⟩ : ∃ z, z = (i + Int32.ofInt 1) := ⟨_, rfl⟩
      have x6t : x6.toInt = i.toInt + (1) := by rw [x6e]; exact n_add (y := Int32.ofInt (1)) (by show _ ≤ _ + (1 : Int); omega) (by show _ + (1 : Int) ≤ _; omega)
      rw [← x6e]
      refine aw_step (f1 := (27, [some (.ref 30), some (.ref 3), some (.int L), some (.int f), some (.long v), none, some (.int x6)], [])) (w1 := w4) rfl rfl ?_
      refine ih w4 x6 (by omega) (by omega) (by omega) J5 (O.trans w4f.1) (fun c hc => ?_)
      by_cases q : c = i.toInt.toNat
      · rw [q, w4f.2.1, show ((i.toInt.toNat : Nat) : Int) = i.toInt by omega]; exact y3t
      · rw [w4f.2.2 c q]; exact F c (by omega)
theorem e_ob31 {d : Nat} {w : am_W} {V : Nat → Int} (R : RCs w 3 V) (od : odW w 31 32) (L f : Int32) (v : Int64) (hL : 1 ≤ L.toInt ∧ L.toInt ≤ 50) (hf : 0 ≤ f.toInt ∧ f.toInt < 36) (I : ab_inv ab_TT ab_sets w) : aw none (d + 2) 6 (fun r w1 => r = none ∧ ab_J ab_TT ab_sets ab_WR w w1 ∧ only [30, 31, 32, 33] w w1 ∧ odW w1 31 32 ∧ fI w1 30 3 = szV V ∧ (∀ c : Nat, c < 36 → rL w1 31 c = if c = f.toInt.toNat then n64 v else 0) ∧ ∀ c : Nat, (c : Int) < szV V → lsV V L.toInt c (rL w1 33 c)) (0, am_entry 6 [.ref 30, .ref 3, .int L, .int f, .long v], []) w := by
  have J : ab_J ab_TT ab_sets ab_WR w w := ⟨I, ab_fr.rf⟩
  have szc := szC_in I
  have hsz := R.sz
  have vA := ab_any64 v
  unfold ab_lo64 ab_hi64 at vA
  show aw none (d + 2) 6 _ (0, [some (.ref 30), some (.ref 3), some (.int L), some (.int f), some (.long v), none, none], []) w
  refine aw_step (f1 := (1, [some (.ref 30), some (.ref 3), some (.int L), some (.int f), some (.long v), none, none], [(.ref 30)])) (w1 := w) rfl rfl ?_
  refine aw_step (f1 := (2, [some (.ref 30), some (.ref 3), some (.int L), some (.int f), some (.long v), none, none], [(.ref 3), (.ref 30)])) (w1 := w) rfl rfl ?_
  refine s_cv (z := 38) (p := 3) (as := []) (st1 := [(.ref 30)]) J 5 rfl rfl rfl rfl rfl rfl rfl rfl (Nat.le_of_ble_eq_true rfl) (Nat.le_of_ble_eq_true rfl) (q_size J.1) ?_
  rintro _ _ ⟨rfl, x1, rfl, x1t⟩
  refine ⟨rfl, ?_⟩
  show aw none _ 6 _ (5, [some (.ref 30), some (.ref 3), some (.int L), some (.int f), some (.long v), none, none], [(.int x1), (.ref 30)]) w
  refine s_pi J 8 rfl rfl rfl rfl rfl rfl rfl (by omega) (by omega) fun w2 J3 w2e => ?_
  have w2f := fv_st J.1 (p := 30) (kf := 3) rfl (by decide) w2e
  refine aw_step (f1 := (9, [some (.ref 30), some (.ref 3), some (.int L), some (.int f), some (.long v), none, none], [(.ref 30)])) (w1 := w2) rfl rfl ?_
  refine s_gk (q := 31) J3 12 rfl rfl rfl rfl rfl rfl ((w2f.2.2 0 (by decide)).trans od.1) ?_
  refine s_l (pc1 := 13) (ls1 := [some (.ref 30), some (.ref 3), some (.int L), some (.int f), some (.long v), none, none]) (st1 := [(.ref 31)]) rfl rfl fun y4 e5 => ?_
  have e5t : y4.toInt = 0 := by rw [e5]; rfl
  --
  refine s_cs (z := 191) (as := [(.ref 31), (.long y4)]) (st1 := []) 16 rfl rfl rfl rfl rfl rfl (Nat.le_of_ble_eq_true rfl) (Nat.le_of_ble_eq_true rfl) (Nat.le_of_ble_eq_true rfl) (e_fl31 y4 J3.1) ?_
  rintro _ w6 ⟨rfl, J7c, w6o, w6p⟩
  have J7 := J3.trans J7c
  refine ⟨am_len2 J3 J7c, ?_⟩
  show aw none _ 6 _ (16, [some (.ref 30), some (.ref 3), some (.int L), some (.int f), some (.long v), none, none], []) w6
  refine aw_step (f1 := (17, [some (.ref 30), some (.ref 3), some (.int L), some (.int f), some (.long v), none, none], [(.ref 30)])) (w1 := w6) rfl rfl ?_
  refine s_gk (q := 31) J7 20 rfl rfl rfl rfl rfl rfl ((w6o.fv (by decide)).trans ((w2f.2.2 0 (by decide)).trans od.1)) ?_
  refine aw_step (f1 := (21, [some (.ref 30), some (.ref 3), some (.int L), some (.int f), some (.long v), none, none], [(.int f), (.ref 31)])) (w1 := w6) rfl rfl ?_
  refine aw_step (f1 := (23, [some (.ref 30), some (.ref 3), some (.int L), some (.int f), some (.long v), none, none], [(.long v), (.int f), (.ref 31)])) (w1 := w6) rfl rfl ?_
  refine s_ls J7 24 rfl rfl rfl rfl (by omega) (by omega) (by omega) (by omega) fun w8 J9 w8e => ?_
  have w8f := rL_st J7.1 (p := 31) (j := f.toInt.toNat) rfl (by omega) w8e
  refine s_i (pc1 := 25) (ls1 := [some (.ref 30), some (.ref 3), some (.int L), some (.int f), some (.long v), none, none]) (st1 := []) rfl rfl fun x10 e11 => ?_
  have e11t : x10.toInt = 0 := by rw [e11]; rfl
  refine aw_step (f1 := (27, [some (.ref 30), some (.ref 3), some (.int L), some (.int f), some (.long v), none, some (.int x10)], [])) (w1 := w8) rfl rfl ?_
  have od3 : odW w8 31 32 := ⟨(w8f.1.fv (by decide)).trans ((w6o.fv (by decide)).trans ((w2f.2.2 0 (by decide)).trans od.1)), (w8f.1.fv (by decide)).trans ((w6o.fv (by decide)).trans ((w2f.2.2 1 (by decide)).trans od.2))⟩
  have z3 : fI w8 30 3 = szV V := by rw [w8f.1.fIe (by decide), w6o.fIe (by decide), fI_of w2f.2.1]; omega
  have R3 := ((R.of w2f.1 (by decide)).of w6o (by decide)).of w8f.1 (by decide)
  refine (e_obL R3 L f v hL z3 (by omega) 37 w8 x10 (by omega) (by omega) (by omega) ⟨J9.1, ab_fr.rf⟩ only.rf (fun c hc => by omega)).mono fun r w1 q => ?_
  obtain ⟨q1, q2, q3, q4⟩ := q
  refine ⟨q1, J9.trans q2, (((oc w2f.1 (by decide)).trans (oc w6o (by decide))).trans (oc w8f.1 (by decide))).trans (oc q3 (by decide)), ⟨(q3.fv (by decide)).trans od3.1, (q3.fv (by decide)).trans od3.2⟩, (q3.fIe (by decide)).trans z3, fun c hc => ?_, q4⟩
  rw [q3.rLe (by decide)]
  by_cases e : c = f.toInt.toNat
  · rw [if_pos e, e, w8f.2.1]
  · rw [if_neg e, w8f.2.2 c e, w6p c hc, n64_z.mp e5t]
theorem e_ob32 {d : Nat} {w : am_W} {V : Nat → Int} (R : RCs w 3 V) (od : odW w 32 31) (L f : Int32) (v : Int64) (hL : 1 ≤ L.toInt ∧ L.toInt ≤ 50) (hf : 0 ≤ f.toInt ∧ f.toInt < 36) (I : ab_inv ab_TT ab_sets w) : aw none (d + 2) 6 (fun r w1 => r = none ∧ ab_J ab_TT ab_sets ab_WR w w1 ∧ only [30, 31, 32, 33] w w1 ∧ odW w1 32 31 ∧ fI w1 30 3 = szV V ∧ (∀ c : Nat, c < 36 → rL w1 32 c = if c = f.toInt.toNat then n64 v else 0) ∧ ∀ c : Nat, (c : Int) < szV V → lsV V L.toInt c (rL w1 33 c)) (0, am_entry 6 [.ref 30, .ref 3, .int L, .int f, .long v], []) w := by
  have J : ab_J ab_TT ab_sets ab_WR w w := ⟨I, ab_fr.rf⟩
  have szc := szC_in I
  have hsz := R.sz
  have vA := ab_any64 v
  unfold ab_lo64 ab_hi64 at vA
  show aw none (d + 2) 6 _ (0, [some (.ref 30), some (.ref 3), some (.int L), some (.int f), some (.long v), none, none], []) w
  refine aw_step (f1 := (1, [some (.ref 30), some (.ref 3), some (.int L), some (.int f), some (.long v), none, none], [(.ref 30)])) (w1 := w) rfl rfl ?_
  refine aw_step (f1 := (2, [some (.ref 30), some (.ref 3), some (.int L), some (.int f), some (.long v), none, none], [(.ref 3), (.ref 30)])) (w1 := w) rfl rfl ?_
  refine s_cv (z := 38) (p := 3) (as := []) (st1 := [(.ref 30)]) J 5 rfl rfl rfl rfl rfl rfl rfl rfl (Nat.le_of_ble_eq_true rfl) (Nat.le_of_ble_eq_true rfl) (q_size J.1) ?_
  rintro _ _ ⟨rfl, x1, rfl, x1t⟩
  refine ⟨rfl, ?_⟩
  show aw none _ 6 _ (5, [some (.ref 30), some (.ref 3), some (.int L), some (.int f), some (.long v), none, none], [(.int x1), (.ref 30)]) w
  refine s_pi J 8 rfl rfl rfl rfl rfl rfl rfl (by omega) (by omega) fun w2 J3 w2e => ?_
  have w2f := fv_st J.1 (p := 30) (kf := 3) rfl (by decide) w2e
  refine aw_step (f1 := (9, [some (.ref 30), some (.ref 3), some (.int L), some (.int f), some (.long v), none, none], [(.ref 30)])) (w1 := w2) rfl rfl ?_
  refine s_gk (q := 32) J3 12 rfl rfl rfl rfl rfl rfl ((w2f.2.2 0 (by decide)).trans od.1) ?_
  refine s_l (pc1 := 13) (ls1 := [some (.ref 30), some (.ref 3), some (.int L), some (.int f), some (.long v), none, none]) (st1 := [(.ref 32)]) rfl rfl fun y4 e5 => ?_
  have e5t : y4.toInt = 0 := by rw [e5]; rfl
  --
  refine s_cs (z := 191) (as := [(.ref 32), (.long y4)]) (st1 := []) 16 rfl rfl rfl rfl rfl rfl (Nat.le_of_ble_eq_true rfl) (Nat.le_of_ble_eq_true rfl) (Nat.le_of_ble_eq_true rfl) (e_fl32 y4 J3.1) ?_
  rintro _ w6 ⟨rfl, J7c, w6o, w6p⟩
  have J7 := J3.trans J7c
  refine ⟨am_len2 J3 J7c, ?_⟩
  show aw none _ 6 _ (16, [some (.ref 30), some (.ref 3), some (.int L), some (.int f), some (.long v), none, none], []) w6
  refine aw_step (f1 := (17, [some (.ref 30), some (.ref 3), some (.int L), some (.int f), some (.long v), none, none], [(.ref 30)])) (w1 := w6) rfl rfl ?_
  refine s_gk (q := 32) J7 20 rfl rfl rfl rfl rfl rfl ((w6o.fv (by decide)).trans ((w2f.2.2 0 (by decide)).trans od.1)) ?_
  refine aw_step (f1 := (21, [some (.ref 30), some (.ref 3), some (.int L), some (.int f), some (.long v), none, none], [(.int f), (.ref 32)])) (w1 := w6) rfl rfl ?_
  refine aw_step (f1 := (23, [some (.ref 30), some (.ref 3), some (.int L), some (.int f), some (.long v), none, none], [(.long v), (.int f), (.ref 32)])) (w1 := w6) rfl rfl ?_
  refine s_ls J7 24 rfl rfl rfl rfl (by omega) (by omega) (by omega) (by omega) fun w8 J9 w8e => ?_
  have w8f := rL_st J7.1 (p := 32) (j := f.toInt.toNat) rfl (by omega) w8e
  refine s_i (pc1 := 25) (ls1 := [some (.ref 30), some (.ref 3), some (.int L), some (.int f), some (.long v), none, none]) (st1 := []) rfl rfl fun x10 e11 => ?_
  have e11t : x10.toInt = 0 := by rw [e11]; rfl
  refine aw_step (f1 := (27, [some (.ref 30), some (.ref 3), some (.int L), some (.int f), some (.long v), none, some (.int x10)], [])) (w1 := w8) rfl rfl ?_
  have od3 : odW w8 32 31 := ⟨(w8f.1.fv (by decide)).trans ((w6o.fv (by decide)).trans ((w2f.2.2 0 (by decide)).trans od.1)), (w8f.1.fv (by decide)).trans ((w6o.fv (by decide)).trans ((w2f.2.2 1 (by decide)).trans od.2))⟩
  have z3 : fI w8 30 3 = szV V := by rw [w8f.1.fIe (by decide), w6o.fIe (by decide), fI_of w2f.2.1]; omega
  have R3 := ((R.of w2f.1 (by decide)).of w6o (by decide)).of w8f.1 (by decide)
  refine (e_obL R3 L f v hL z3 (by omega) 37 w8 x10 (by omega) (by omega) (by omega) ⟨J9.1, ab_fr.rf⟩ only.rf (fun c hc => by omega)).mono fun r w1 q => ?_
  obtain ⟨q1, q2, q3, q4⟩ := q
  refine ⟨q1, J9.trans q2, (((oc w2f.1 (by decide)).trans (oc w6o (by decide))).trans (oc w8f.1 (by decide))).trans (oc q3 (by decide)), ⟨(q3.fv (by decide)).trans od3.1, (q3.fv (by decide)).trans od3.2⟩, (q3.fIe (by decide)).trans z3, fun c hc => ?_, q4⟩
  rw [q3.rLe (by decide)]
  by_cases e : c = f.toInt.toNat
  · rw [if_pos e, e, w8f.2.1]
  · rw [if_neg e, w8f.2.2 c e, w6p c hc, n64_z.mp e5t]
theorem e_obV {d : Nat} {w : am_W} {V : Nat → Int} (R : RCs w 3 V) (od : odA w) (L f : Int32) (v : Int64) (hL : 1 ≤ L.toInt ∧ L.toInt ≤ 50) (hf : 0 ≤ f.toInt ∧ f.toInt < 36) (I : ab_inv ab_TT ab_sets w) : aw none (d + 2) 6 (fun r w1 => r = none ∧ ab_J ab_TT ab_sets ab_WR w w1 ∧ odV w1 (fun c => if c = f.toInt.toNat then n64 v else 0) 36 ∧ fI w1 30 3 = szV V ∧ ∀ c : Nat, (c : Int) < szV V → lsV V L.toInt c (rL w1 33 c)) (0, am_entry 6 [.ref 30, .ref 3, .int L, .int f, .long v], []) w := by
  rcases od with od | od
  · exact (e_ob31 R od L f v hL hf I).mono fun r w1 q => ⟨q.1, q.2.1, Or.inl ⟨q.2.2.2.1, q.2.2.2.2.2.1⟩, q.2.2.2.2.1, q.2.2.2.2.2.2⟩
  · exact (e_ob32 R od L f v hL hf I).mono fun r w1 q => ⟨q.1, q.2.1, Or.inr ⟨q.2.2.2.1, q.2.2.2.2.2.1⟩, q.2.2.2.2.1, q.2.2.2.2.2.2⟩
theorem odV.le {w : am_W} {g : Nat → Nat} {Z Y : Nat} (h : odV w g Z) (y : Y ≤ Z) : odV w g Y := by
  rcases h with h | h
  · exact Or.inl ⟨h.1, fun c hc => h.2 c (by omega)⟩
  · exact Or.inr ⟨h.1, fun c hc => h.2 c (by omega)⟩
theorem e_stAllV {d : Nat} {w : am_W} {l : Nat → Nat} {Z f k : Nat} (O : odV w (wyT l Z f k) Z) (hs : fI w 30 3 = (Z : Int)) (hl : ∀ c : Nat, c < Z → rL w 33 c = l c) (hZ : Z ≤ 36) (hk : k < 12) (I : ab_inv ab_TT ab_sets w) : aw none (d + 2) 7 (fun r w1 => r = none ∧ ab_J ab_TT ab_sets ab_WR w w1 ∧ odV w1 (wyT l Z f (k + 1)) Z ∧ fI w1 30 3 = (Z : Int) ∧ ∀ c : Nat, c < Z → rL w1 33 c = l c) (0, am_entry 7 [.ref 30], []) w := by
  have key : ∀ (a e : Nat), (∀ c : Nat, c < Z → rL w a c = wyT l Z f k c) → smT (fun c => bt (rL w 33 c) e * rL w a c) (fI w 30 3).toNat % 18446744073709551616 = wyT l Z f (k + 1) e := fun a e r => by
    rw [hs, show ((Z : Nat) : Int).toNat = Z from rfl, smT_eq (h := fun c => bt (l c) e * wyT l Z f k c) (fun c hc => by show bt (rL w 33 c) e * rL w a c = bt (l c) e * wyT l Z f k c; rw [hl c hc, r c hc])]
    have b := wyT_63 (l := l) (f := f) hZ (n := k + 1) (by omega) e
    exact Nat.mod_eq_of_lt (Nat.lt_trans b (by decide))
  rcases O with ⟨od, r⟩ | ⟨od, r⟩
  · refine (e_stAll31 od (by omega) I).mono fun r' w1 q => ?_
    obtain ⟨q1, q2, q3, q4, q5, q6⟩ := q
    exact ⟨q1, q2, Or.inr ⟨q4, fun c hc => by rw [q6 c (by omega)]; exact key 31 c r⟩, by rw [q5, hs], fun c hc => by rw [q3.rLe (by decide)]; exact hl c hc⟩
  · refine (e_stAll32 od (by omega) I).mono fun r' w1 q => ?_
    obtain ⟨q1, q2, q3, q4, q5, q6⟩ := q
    exact ⟨q1, q2, Or.inl ⟨q4, fun c hc => by rw [q6 c (by omega)]; exact key 32 c r⟩, by rw [q5, hs], fun c hc => by rw [q3.rLe (by decide)]; exact hl c hc⟩
theorem e_stLotV {d : Nat} {w : am_W} {l : Nat → Nat} {Z f a k : Nat} (O : odV w (chT l Z f a k) Z) (hs : fI w 30 3 = (Z : Int)) (hl : ∀ c : Nat, c < Z → rL w 33 c = l c) (hZ : Z ≤ 36) (ha : a < 9223372036854775808) (I : ab_inv ab_TT ab_sets w) : aw none (d + 2) 8 (fun r w1 => r = none ∧ ab_J ab_TT ab_sets ab_WR w w1 ∧ odV w1 (chT l Z f a (k + 1)) Z ∧ fI w1 30 3 = (Z : Int) ∧ ∀ c : Nat, c < Z → rL w1 33 c = l c) (0, am_entry 8 [.ref 30], []) w := by
  have key : ∀ (p e : Nat), e < Z → (∀ c : Nat, c < Z → rL w p c = chT l Z f a k c) → ltT (rL w 33) (rL w p) e (fI w 30 3).toNat % 18446744073709551616 = chT l Z f a (k + 1) e := fun p e he r => by
    rw [hs, show ((Z : Nat) : Int).toNat = Z from rfl]
    unfold ltT
    rw [smT_eq (h := fun c => bt (l c) e * (chT l Z f a k c / cnt (l c) 64)) (fun c hc => by show bt (rL w 33 c) e * (rL w p c / cnt (rL w 33 c) 64) = bt (l c) e * (chT l Z f a k c / cnt (l c) 64); rw [hl c hc, r c hc]), hl e he, r e he]
    have b := chT_a (l := l) (f := f) (a := a) (z := Z) (by omega) (k + 1) he
    have c : (if l e = 0 ∧ e < Z then chT l Z f a k e else 0) + smT (fun c => bt (l c) e * (chT l Z f a k c / cnt (l c) 64)) Z = chT l Z f a (k + 1) e := by
      show _ = (if l e = 0 then chT l Z f a k e else 0) + smT (fun c => bt (l c) e * (chT l Z f a k c / cnt (l c) 64)) Z
      by_cases q : l e = 0
      · rw [if_pos ⟨q, he⟩, if_pos q]
      · rw [if_neg (fun u => q u.1), if_neg q]
    rw [c]
    exact Nat.mod_eq_of_lt (Nat.lt_trans (Nat.lt_of_le_of_lt b ha) (by decide))
  have bd : ∀ (p : Nat), (∀ c : Nat, c < Z → rL w p c = chT l Z f a k c) → ∀ c : Nat, (c : Int) < fI w 30 3 → rL w p c < 9223372036854775808 := fun p r c hc => by
    have hc' : c < Z := by omega
    rw [r c hc']
    exact Nat.lt_of_le_of_lt (chT_a (by omega) k hc') ha
  rcases O with ⟨od, r⟩ | ⟨od, r⟩
  · refine (e_stLot31 od (by omega) (bd 31 r) I).mono fun r' w1 q => ?_
    obtain ⟨q1, q2, q3, q4, q5, q6⟩ := q
    exact ⟨q1, q2, Or.inr ⟨q4, fun c hc => by rw [q6 c (by omega)]; exact key 31 c hc r⟩, by rw [q5, hs], fun c hc => by rw [q3.rLe (by decide)]; exact hl c hc⟩
  · refine (e_stLot32 od (by omega) (bd 32 r) I).mono fun r' w1 q => ?_
    obtain ⟨q1, q2, q3, q4, q5, q6⟩ := q
    exact ⟨q1, q2, Or.inl ⟨q4, fun c hc => by rw [q6 c (by omega)]; exact key 32 c hc r⟩, by rw [q5, hs], fun c hc => by rw [q3.rLe (by decide)]; exact hl c hc⟩
