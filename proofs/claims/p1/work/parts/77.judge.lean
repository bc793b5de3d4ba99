/-! ===== judge: the walks ===== -/
/-- the walk so far -/
noncomputable def wkI (V P st : Nat → Int) (n i : Int) : Prop := (0 ≤ i ∧ i ≤ n ∧ i % 2 = 0) ∧ jW V P (i / 2).toNat st ∧ jB V st (i / 2)
theorem wkI.st {V P st st1 : Nat → Int} {n i f d z : Int} (h : wkI V P st n i) (hw : wlk P n) (hi : i < n) (hv : (1 ≤ V 0 ∧ V 0 ≤ 6) ∧ 1 ≤ V 1 ∧ V 1 ≤ 6) (ef : P i.toNat = f) (ed : P (i + 1).toNat - 48 = d) (hz : z = 0) (g : jS V st f d z st1) : wkI V P st1 n (i + 2) := by
  obtain ⟨⟨h1, h2, h3⟩, h4, h5⟩ := h
  subst hz
  have o1 := hw.2 i.toNat (by omega)
  have o2 := hw.2 (i + 1).toNat (by have := hw.1; omega)
  have e : (i + 1).toNat - 1 = i.toNat := by omega
  unfold okW at o1 o2
  rw [e] at o2
  have a1 : 2 * (i / 2).toNat = i.toNat := by omega
  have a2 : 2 * (i / 2).toNat + 1 = (i + 1).toNat := by omega
  refine ⟨⟨by omega, by have := hw.1; omega, by omega⟩, ?_, ?_⟩
  · rw [show ((i + 2) / 2).toNat = (i / 2).toNat + 1 by omega]
    exact ⟨st, h4, by rw [a2, a1, ef, ed]; exact g⟩
  · rw [show (i + 2) / 2 = i / 2 + 1 by omega]
    exact h5.st hv (by omega) g
theorem wkI.bad {V P st st1 : Nat → Int} {n i f d z : Int} (h : wkI V P st n i) (hw : wlk P n) (hi : i < n) (ef : P i.toNat = f) (ed : P (i + 1).toNat - 48 = d) (hz : 0 < z) (g : jS V st f d z st1) : jE V P (n / 2).toNat (i / 2) z st := by
  obtain ⟨⟨h1, h2, h3⟩, h4, h5⟩ := h
  have a1 : 2 * (i / 2).toNat = i.toNat := by omega
  have a2 : 2 * (i / 2).toNat + 1 = (i + 1).toNat := by omega
  exact Or.inr ⟨(i / 2).toNat, by have := hw.1; omega, by omega, h4, hz, st1, by rw [a2, a1, ef, ed]; exact g⟩
theorem jS_pos {V st st1 : Nat → Int} {f d z : Int} (g : jS V st f d z st1) (h : z ≠ 0) : 0 < z ∧ z ≤ 5 ∧ st1 = st := by
  rcases g with ⟨g1, g2, g3, gS⟩ | ⟨g1, g2, g3, g4, gS⟩ | ⟨g1, g2, g3, gS⟩ | ⟨g1, g2, g3, g4, gS⟩ | ⟨g1, g2, g3, g4, g5, gS⟩ | ⟨g1, g2, g3, g4, g5, g6, gS⟩ | ⟨g1, g2, g3, g4, g5, g6, gS⟩
  · exact ⟨by omega, by omega, gS⟩
  · omega
  · exact ⟨by omega, by omega, gS⟩
  · exact ⟨by omega, by omega, gS⟩
  · exact ⟨by omega, by omega, gS⟩
  · exact ⟨by omega, by omega, gS⟩
  · omega
theorem j0_B {V : Nat → Int} (h : 0 ≤ V 2 ∧ V 2 < szV V) : jB V (j0 V) 0 := by
  refine ⟨h, by show (0 : Int) ≤ 0 ∧ (0 : Int) ≤ 3; decide, by show (0 : Int) ≤ 0 ∧ (0 : Int) ≤ 0; decide, fun b hb => ?_⟩
  have : j0 V (3 + b) = 0 := by unfold j0; rw [if_neg (by omega)]
  omega
theorem e_flL {d : Nat} {w00 : am_W} {V P : Nat → Int} {n : Int} (R00 : RCs w00 3 V) (RP : RCp w00 n P) (hw : wlk P n) (I0 : ab_inv ab_TT ab_sets w00) : ∀ (m : Nat) (w : am_W) (st : Nat → Int) (i : Int32) (o4 o5 o6 : Option Value), (n - i.toInt).toNat < m → 0 ≤ i.toInt → i.toInt ≤ n → ab_J ab_TT ab_sets ab_WR w00 w → only [16, 17] w00 w → JC w st → fI w 16 0 = -6 → fI w 16 1 = -6 → wkI V P st n i.toInt → aw none (d + 4) 56 (fun r w1 => r = none ∧ ab_J ab_TT ab_sets ab_WR w00 w1 ∧ only [16, 17] w00 w1 ∧ ∃ st, JC w1 st ∧ jE V P (n / 2).toNat (fI w1 16 0) (fI w1 16 1) st) (40, [some (.ref 16), some (.ref 3), some (.ref 1), some (.int i), o4, o5, o6], []) w := by
  have szc := szC_in I0
  have hsz := R00.sz
  have f0 := R00.f0
  have f1 := R00.f1
  have b0 := fI_in (p := 3) (k := 0) I0 rfl rfl
  have b1 := fI_in (p := 3) (k := 1) I0 rfl rfl
  have nb := fI_in (p := 1) (k := 1) I0 rfl rfl
  have hn := RP.1
  have hv : (1 ≤ V 0 ∧ V 0 ≤ 6) ∧ 1 ≤ V 1 ∧ V 1 ≤ 6 := by omega
  have w2 := hw.1
  intro m
  induction m with
  | zero => intro w st i o4 o5 o6 p; omega
  | succ m ih =>
    intro w st i o4 o5 o6 p1 p2 p3 J O C k0 k1 F
    have R := R00.of O (by decide)
    have cn : fI w 1 1 = n := by rw [O.fIe (by decide)]; exact hn
    have Fi := F.1
    refine aw_step (f1 := (41, [some (.ref 16), some (.ref 3), some (.ref 1), some (.int i), o4, o5, o6], [(.int i)])) (w1 := w) rfl rfl ?_
    refine s_i (pc1 := 42) (ls1 := [some (.ref 16), some (.ref 3), some (.ref 1), some (.int i), o4, o5, o6]) (st1 := [(.int i)]) rfl rfl fun x1 e2 => ?_
    have e2t : x1.toInt = 1 := by rw [e2]; rfl
    refine s_i (pc1 := 43) (ls1 := [some (.ref 16), some (.ref 3), some (.ref 1), some (.int i), o4, o5, o6]) (st1 := []) rfl rfl fun x3 e4 => ?_
    have e4 : x3 = i + x1 := e4
    have e4t : x3.toInt = i.toInt + x1.toInt := by rw [e4]; exact n_add (by omega) (by omega)
    refine aw_step (f1 := (44, [some (.ref 16), some (.ref 3), some (.ref 1), some (.int i), o4, o5, o6], [(.ref 1), (.int x3)])) (w1 := w) rfl rfl ?_
    refine s_gi J 47 rfl rfl rfl rfl rfl rfl fun x5 x5a x5b x5f => ?_
    have x5v : x5.toInt = fI w 1 1 := by rw [← fI_of x5f]
    refine s_ic 127 50 rfl rfl rfl (fun (h6 : x5.toInt ≤ x3.toInt) => ?_) (fun (h6 : ¬ (x5.toInt ≤ x3.toInt)) => ?_)
    · --
      refine aw_ret (v := none) rfl rfl ?_
      exact ⟨rfl, J, O, st, C, Or.inl ⟨k0, k1, by rw [← show i.toInt = n by have := F.1; have := hw.1; omega]; exact F.2.1⟩⟩
    · --
      have o1 := hw.2 i.toInt.toNat (by have := F.1; omega)
      have o2 := hw.2 (i.toInt + 1).toNat (by have := F.1; have := hw.1; omega)
      have eo : (i.toInt + 1).toNat - 1 = i.toInt.toNat := by omega
      unfold okW at o1 o2
      rw [eo] at o2
      have s1 : rI w 2 i.toInt.toNat = P i.toInt.toNat := by rw [O.rIe (by decide)]; exact RP.2 _
      have s2 : rI w 2 (i.toInt + 1).toNat = P (i.toInt + 1).toNat := by rw [O.rIe (by decide)]; exact RP.2 _
      refine aw_step (f1 := (51, [some (.ref 16), some (.ref 3), some (.ref 1), some (.int i), o4, o5, o6], [(.ref 1)])) (w1 := w) rfl rfl ?_
      refine s_gr 2 J 54 rfl rfl rfl rfl rfl rfl ?_
      refine aw_step (f1 := (55, [some (.ref 16), some (.ref 3), some (.ref 1), some (.int i), o4, o5, o6], [(.int i), (.ref 2)])) (w1 := w) rfl rfl ?_
      refine s_ia J 56 rfl rfl rfl rfl (by omega) (by omega) fun x7 x7a x7b x7f => ?_
      have x7v : x7.toInt = rI w 2 i.toInt.toNat := by rw [← rI_of x7f]
      refine aw_step (f1 := (58, [some (.ref 16), some (.ref 3), some (.ref 1), some (.int i), some (.int x7), o5, o6], [])) (w1 := w) rfl rfl ?_
      refine aw_step (f1 := (59, [some (.ref 16), some (.ref 3), some (.ref 1), some (.int i), some (.int x7), o5, o6], [(.ref 1)])) (w1 := w) rfl rfl ?_
      refine s_gr 2 J 62 rfl rfl rfl rfl rfl rfl ?_
      refine aw_step (f1 := (63, [some (.ref 16), some (.ref 3), some (.ref 1), some (.int i), some (.int x7), o5, o6], [(.int i), (.ref 2)])) (w1 := w) rfl rfl ?_
      refine s_i (pc1 := 64) (ls1 := [some (.ref 16), some (.ref 3), some (.ref 1), some (.int i), some (.int x7), o5, o6]) (st1 := [(.int i), (.ref 2)]) rfl rfl fun x8 e9 => ?_
      have e9t : x8.toInt = 1 := by rw [e9]; rfl
      refine s_i (pc1 := 65) (ls1 := [some (.ref 16), some (.ref 3), some (.ref 1), some (.int i), some (.int x7), o5, o6]) (st1 := [(.ref 2)]) rfl rfl fun x10 e11 => ?_
      have e11 : x10 = i + x8 := e11
      have e11t : x10.toInt = i.toInt + x8.toInt := by rw [e11]; exact n_add (by omega) (by omega)
      --
      refine s_ia J 66 rfl rfl rfl rfl (by omega) (by omega) fun x12 x12a x12b x12f => ?_
      have x12v : x12.toInt = rI w 2 x10.toInt.toNat := by rw [← rI_of x12f]
      rw [show x10.toInt.toNat = (i.toInt + 1).toNat by omega] at x12v
      refine s_i (pc1 := 68) (ls1 := [some (.ref 16), some (.ref 3), some (.ref 1), some (.int i), some (.int x7), o5, o6]) (st1 := [(.int x12)]) rfl rfl fun x13 e14 => ?_
      have e14t : x13.toInt = 48 := by rw [e14]; rfl
      refine s_i (pc1 := 69) (ls1 := [some (.ref 16), some (.ref 3), some (.ref 1), some (.int i), some (.int x7), o5, o6]) (st1 := []) rfl rfl fun x15 e16 => ?_
      have e16 : x15 = x12 - x13 := e16
      have e16t : x15.toInt = x12.toInt - x13.toInt := by rw [e16]; exact n_sub (by omega) (by omega)
      refine aw_step (f1 := (71, [some (.ref 16), some (.ref 3), some (.ref 1), some (.int i), some (.int x7), some (.int x15), o6], [])) (w1 := w) rfl rfl ?_
      refine aw_step (f1 := (73, [some (.ref 16), some (.ref 3), some (.ref 1), some (.int i), some (.int x7), some (.int x15), o6], [(.int x7)])) (w1 := w) rfl rfl ?_
      refine s_i (pc1 := 75) (ls1 := [some (.ref 16), some (.ref 3), some (.ref 1), some (.int i), some (.int x7), some (.int x15), o6]) (st1 := [(.int x7)]) rfl rfl fun x17 e18 => ?_
      have e18t : x17.toInt = 35 := by rw [e18]; rfl
      refine s_ic 88 78 rfl rfl rfl (fun (h19 : ¬ x7.toInt = x17.toInt) => ?_) (fun (h19 : ¬ (¬ x7.toInt = x17.toInt)) => ?_)
      · --
        refine aw_step (f1 := (89, [some (.ref 16), some (.ref 3), some (.ref 1), some (.int i), some (.int x7), some (.int x15), o6], [(.ref 16)])) (w1 := w) rfl rfl ?_
        refine aw_step (f1 := (90, [some (.ref 16), some (.ref 3), some (.ref 1), some (.int i), some (.int x7), some (.int x15), o6], [(.ref 3), (.ref 16)])) (w1 := w) rfl rfl ?_
        refine aw_step (f1 := (92, [some (.ref 16), some (.ref 3), some (.ref 1), some (.int i), some (.int x7), some (.int x15), o6], [(.int x7), (.ref 3), (.ref 16)])) (w1 := w) rfl rfl ?_
        refine s_i (pc1 := 94) (ls1 := [some (.ref 16), some (.ref 3), some (.ref 1), some (.int i), some (.int x7), some (.int x15), o6]) (st1 := [(.int x7), (.ref 3), (.ref 16)]) rfl rfl fun x20 e21 => ?_
        have e21t : x20.toInt = 97 := by rw [e21]; rfl
        refine s_i (pc1 := 95) (ls1 := [some (.ref 16), some (.ref 3), some (.ref 1), some (.int i), some (.int x7), some (.int x15), o6]) (st1 := [(.ref 3), (.ref 16)]) rfl rfl fun x22 e23 => ?_
        have e23 : x22 = x7 - x20 := e23
        have e23t : x22.toInt = x7.toInt - x20.toInt := by rw [e23]; exact n_sub (by omega) (by omega)
        refine aw_step (f1 := (97, [some (.ref 16), some (.ref 3), some (.ref 1), some (.int i), some (.int x7), some (.int x15), o6], [(.int x15), (.int x22), (.ref 3), (.ref 16)])) (w1 := w) rfl rfl ?_
        refine s_cv (z := 58) (p := 16) (as := [(.ref 3), (.int x22), (.int x15)]) (st1 := []) J 100 rfl rfl rfl rfl rfl rfl rfl rfl (Nat.le_of_ble_eq_true rfl) (Nat.le_of_ble_eq_true rfl) (e_stride R C F.2.2 ⟨by omega, by omega⟩ x22 x15 ⟨by omega, by omega⟩ ⟨by omega, by omega⟩ J.1) ?_
        rintro _ w25 ⟨J26c, w25o, w25k, x24, rfl, w25s, w25C, w25S⟩
        have J26 := J.trans J26c
        refine ⟨am_len2 J J26c, ?_⟩
        show aw none _ 56 _ (100, [some (.ref 16), some (.ref 3), some (.ref 1), some (.int i), some (.int x7), some (.int x15), o6], [(.int x24)]) w25
        refine aw_step (f1 := (102, [some (.ref 16), some (.ref 3), some (.ref 1), some (.int i), some (.int x7), some (.int x15), some (.int x24)], [])) (w1 := w25) rfl rfl ?_
        refine aw_step (f1 := (104, [some (.ref 16), some (.ref 3), some (.ref 1), some (.int i), some (.int x7), some (.int x15), some (.int x24)], [(.int x24)])) (w1 := w25) rfl rfl ?_
        refine s_if 121 107 rfl rfl rfl (fun (h27 : x24.toInt = 0) => ?_) (fun (h27 : ¬ (x24.toInt = 0)) => ?_)
        · --
          refine aw_step (f1 := (124, [some (.ref 16), some (.ref 3), some (.ref 1), some (.int (i + Int32.ofInt 2)), some (.int x7), some (.int x15), some (.int x24)], [])) (w1 := w25) rfl rfl ?_
          obtain ⟨x28, x28e⟩ : ∃ z, z = (i + Int32.ofInt 2) := ⟨_, rfl⟩
          have x28t : x28.toInt = i.toInt + (2) := by rw [x28e]; exact n_add (y := Int32.ofInt (2)) (by show _ ≤ _ + (2 : Int); omega) (by show _ + (2 : Int) ≤ _; omega)
          rw [← x28e]
          refine aw_step (f1 := (40, [some (.ref 16), some (.ref 3), some (.ref 1), some (.int x28), some (.int x7), some (.int x15), some (.int x24)], [])) (w1 := w25) rfl rfl ?_
          exact ih w25 w25s x28 _ _ _ (by omega) (by omega) (by omega) J26 (O.trans w25o) w25C (by rw [w25k.1]; exact k0) (by rw [w25k.2]; exact k1) (by rw [show x28.toInt = i.toInt + 2 by omega]; exact F.st (f := x22.toInt + 97) (d := x15.toInt) hw (by omega) hv (by omega) (by omega) (by omega) w25S)
        · --
          refine aw_step (f1 := (108, [some (.ref 16), some (.ref 3), some (.ref 1), some (.int i), some (.int x7), some (.int x15), some (.int x24)], [(.ref 16)])) (w1 := w25) rfl rfl ?_
          refine aw_step (f1 := (109, [some (.ref 16), some (.ref 3), some (.ref 1), some (.int i), some (.int x7), some (.int x15), some (.int x24)], [(.int i), (.ref 16)])) (w1 := w25) rfl rfl ?_
          refine s_i (pc1 := 110) (ls1 := [some (.ref 16), some (.ref 3), some (.ref 1), some (.int i), some (.int x7), some (.int x15), some (.int x24)]) (st1 := [(.int i), (.ref 16)]) rfl rfl fun x29 e30 => ?_
          have e30t : x29.toInt = 2 := by rw [e30]; rfl
          refine s_dv (f := fun x y => x / y) 111 rfl rfl (by omega) fun x31 e32 => ?_
          have e32 : x31 = i / x29 := e32
          have e32t : x31.toInt = i.toInt / x29.toInt := by rw [e32]; exact n_div (by omega) (by omega)
          rw [e30t] at e32t
          refine s_pi J26 114 rfl rfl rfl rfl rfl rfl rfl (by omega) (by omega) fun w33 J34 w33e => ?_
          have w33f := fv_st J26.1 (p := 16) (kf := 0) rfl (by decide) w33e
          refine aw_step (f1 := (115, [some (.ref 16), some (.ref 3), some (.ref 1), some (.int i), some (.int x7), some (.int x15), some (.int x24)], [(.ref 16)])) (w1 := w33) rfl rfl ?_
          refine aw_step (f1 := (117, [some (.ref 16), some (.ref 3), some (.ref 1), some (.int i), some (.int x7), some (.int x15), some (.int x24)], [(.int x24), (.ref 16)])) (w1 := w33) rfl rfl ?_
          have zb := ab_any32 x24
          unfold ab_lo32 ab_hi32 at zb
          refine s_pi J34 120 rfl rfl rfl rfl rfl rfl rfl (by omega) (by omega) fun w35 J36 w35e => ?_
          have w35f := fv_st J34.1 (p := 16) (kf := 1) rfl (by decide) w35e
          refine aw_ret (v := none) rfl rfl ?_
          have ps := jS_pos w25S (by omega)
          have jc : JC w35 st := by
            have q := w25C
            rw [ps.2.2] at q
            exact ⟨by rw [fI_eq (w35f.2.2 2 (by decide)), fI_eq (w33f.2.2 2 (by decide))]; exact q.1, by rw [fI_eq (w35f.2.2 3 (by decide)), fI_eq (w33f.2.2 3 (by decide))]; exact q.2.1, by rw [fI_eq (w35f.2.2 4 (by decide)), fI_eq (w33f.2.2 4 (by decide))]; exact q.2.2.1, fun k hk => by rw [w35f.1.rIe (by decide), w33f.1.rIe (by decide)]; exact q.2.2.2 k hk⟩
          refine ⟨rfl, J36, ((O.trans w25o).trans (w33f.1.sub (by decide))).trans (w35f.1.sub (by decide)), st, jc, ?_⟩
          rw [fI_eq (w35f.2.2 0 (by decide)), fI_of w33f.2.1, fI_of w35f.2.1, show x31.toInt = i.toInt / 2 by omega]
          exact F.bad (f := x22.toInt + 97) (d := x15.toInt) hw (by omega) (by omega) (by omega) (by omega) w25S
      · --
        refine aw_step (f1 := (79, [some (.ref 16), some (.ref 3), some (.ref 1), some (.int i), some (.int x7), some (.int x15), o6], [(.ref 16)])) (w1 := w) rfl rfl ?_
        refine aw_step (f1 := (80, [some (.ref 16), some (.ref 3), some (.ref 1), some (.int i), some (.int x7), some (.int x15), o6], [(.ref 3), (.ref 16)])) (w1 := w) rfl rfl ?_
        refine aw_step (f1 := (82, [some (.ref 16), some (.ref 3), some (.ref 1), some (.int i), some (.int x7), some (.int x15), o6], [(.int x15), (.ref 3), (.ref 16)])) (w1 := w) rfl rfl ?_
        refine s_cv (z := 57) (p := 16) (as := [(.ref 3), (.int x15)]) (st1 := []) J 85 rfl rfl rfl rfl rfl rfl rfl rfl (Nat.le_of_ble_eq_true rfl) (Nat.le_of_ble_eq_true rfl) (e_putOn R C F.2.2 x15 ⟨by omega, by omega⟩ J.1) ?_
        rintro _ w38 ⟨J39c, w38o, w38k, x37, rfl, w38s, w38C, w38S⟩
        have J39 := J.trans J39c
        refine ⟨am_len2 J J39c, ?_⟩
        show aw none _ 56 _ (85, [some (.ref 16), some (.ref 3), some (.ref 1), some (.int i), some (.int x7), some (.int x15), o6], [(.int x37)]) w38
        refine aw_step (f1 := (100, [some (.ref 16), some (.ref 3), some (.ref 1), some (.int i), some (.int x7), some (.int x15), o6], [(.int x37)])) (w1 := w38) rfl rfl ?_
        refine aw_step (f1 := (102, [some (.ref 16), some (.ref 3), some (.ref 1), some (.int i), some (.int x7), some (.int x15), some (.int x37)], [])) (w1 := w38) rfl rfl ?_
        refine aw_step (f1 := (104, [some (.ref 16), some (.ref 3), some (.ref 1), some (.int i), some (.int x7), some (.int x15), some (.int x37)], [(.int x37)])) (w1 := w38) rfl rfl ?_
        refine s_if 121 107 rfl rfl rfl (fun (h40 : x37.toInt = 0) => ?_) (fun (h40 : ¬ (x37.toInt = 0)) => ?_)
        · --
          refine aw_step (f1 := (124, [some (.ref 16), some (.ref 3), some (.ref 1), some (.int (i + Int32.ofInt 2)), some (.int x7), some (.int x15), some (.int x37)], [])) (w1 := w38) rfl rfl ?_
          obtain ⟨x41, x41e⟩ : ∃ z, z = (i + Int32.ofInt 2) := ⟨_, rfl⟩
          have x41t : x41.toInt = i.toInt + (2) := by rw [x41e]; exact n_add (y := Int32.ofInt (2)) (by show _ ≤ _ + (2 : Int); omega) (by show _ + (2 : Int) ≤ _; omega)
          rw [← x41e]
          refine aw_step (f1 := (40, [some (.ref 16), some (.ref 3), some (.ref 1), some (.int x41), some (.int x7), some (.int x15), some (.int x37)], [])) (w1 := w38) rfl rfl ?_
          exact ih w38 w38s x41 _ _ _ (by omega) (by omega) (by omega) J39 (O.trans w38o) w38C (by rw [w38k.1]; exact k0) (by rw [w38k.2]; exact k1) (by rw [show x41.toInt = i.toInt + 2 by omega]; exact F.st (f := 35) (d := x15.toInt) hw (by omega) hv (by omega) (by omega) (by omega) w38S)
        · --
          refine aw_step (f1 := (108, [some (.ref 16), some (.ref 3), some (.ref 1), some (.int i), some (.int x7), some (.int x15), some (.int x37)], [(.ref 16)])) (w1 := w38) rfl rfl ?_
          refine aw_step (f1 := (109, [some (.ref 16), some (.ref 3), some (.ref 1), some (.int i), some (.int x7), some (.int x15), some (.int x37)], [(.int i), (.ref 16)])) (w1 := w38) rfl rfl ?_
          refine s_i (pc1 := 110) (ls1 := [some (.ref 16), some (.ref 3), some (.ref 1), some (.int i), some (.int x7), some (.int x15), some (.int x37)]) (st1 := [(.int i), (.ref 16)]) rfl rfl fun x42 e43 => ?_
          have e43t : x42.toInt = 2 := by rw [e43]; rfl
          refine s_dv (f := fun x y => x / y) 111 rfl rfl (by omega) fun x44 e45 => ?_
          have e45 : x44 = i / x42 := e45
          have e45t : x44.toInt = i.toInt / x42.toInt := by rw [e45]; exact n_div (by omega) (by omega)
          rw [e43t] at e45t
          refine s_pi J39 114 rfl rfl rfl rfl rfl rfl rfl (by omega) (by omega) fun w46 J47 w46e => ?_
          have w46f := fv_st J39.1 (p := 16) (kf := 0) rfl (by decide) w46e
          refine aw_step (f1 := (115, [some (.ref 16), some (.ref 3), some (.ref 1), some (.int i), some (.int x7), some (.int x15), some (.int x37)], [(.ref 16)])) (w1 := w46) rfl rfl ?_
          refine aw_step (f1 := (117, [some (.ref 16), some (.ref 3), some (.ref 1), some (.int i), some (.int x7), some (.int x15), some (.int x37)], [(.int x37), (.ref 16)])) (w1 := w46) rfl rfl ?_
          have zb := ab_any32 x37
          unfold ab_lo32 ab_hi32 at zb
          refine s_pi J47 120 rfl rfl rfl rfl rfl rfl rfl (by omega) (by omega) fun w48 J49 w48e => ?_
          have w48f := fv_st J47.1 (p := 16) (kf := 1) rfl (by decide) w48e
          refine aw_ret (v := none) rfl rfl ?_
          have ps := jS_pos w38S (by omega)
          have jc : JC w48 st := by
            have q := w38C
            rw [ps.2.2] at q
            exact ⟨by rw [fI_eq (w48f.2.2 2 (by decide)), fI_eq (w46f.2.2 2 (by decide))]; exact q.1, by rw [fI_eq (w48f.2.2 3 (by decide)), fI_eq (w46f.2.2 3 (by decide))]; exact q.2.1, by rw [fI_eq (w48f.2.2 4 (by decide)), fI_eq (w46f.2.2 4 (by decide))]; exact q.2.2.1, fun k hk => by rw [w48f.1.rIe (by decide), w46f.1.rIe (by decide)]; exact q.2.2.2 k hk⟩
          refine ⟨rfl, J49, ((O.trans w38o).trans (w46f.1.sub (by decide))).trans (w48f.1.sub (by decide)), st, jc, ?_⟩
          rw [fI_eq (w48f.2.2 0 (by decide)), fI_of w46f.2.1, fI_of w48f.2.1, show x44.toInt = i.toInt / 2 by omega]
          exact F.bad (f := 35) (d := x15.toInt) hw (by omega) (by omega) (by omega) (by omega) w38S
theorem e_flw {d : Nat} {w : am_W} {V P : Nat → Int} {n : Int} (R : RCs w 3 V) (RP : RCp w n P) (hw : wlk P n) (hh : 0 ≤ V 2 ∧ V 2 < szV V) (I : ab_inv ab_TT ab_sets w) : aw none (d + 4) 56 (fun r w1 => r = none ∧ ab_J ab_TT ab_sets ab_WR w w1 ∧ only [16, 17] w w1 ∧ ∃ st, JC w1 st ∧ jE V P (n / 2).toNat (fI w1 16 0) (fI w1 16 1) st) (0, am_entry 56 [.ref 16, .ref 3, .ref 1], []) w := by
  have J : ab_J ab_TT ab_sets ab_WR w w := ⟨I, ab_fr.rf⟩
  have nb := fI_in (p := 1) (k := 1) I rfl rfl
  have hn := RP.1
  have r2 := R.f2
  have szc := szC_in I
  have hsz := R.sz
  show aw none (d + 4) 56 _ (0, [some (.ref 16), some (.ref 3), some (.ref 1), none, none, none, none], []) w
  refine aw_step (f1 := (1, [some (.ref 16), some (.ref 3), some (.ref 1), none, none, none, none], [(.ref 16)])) (w1 := w) rfl rfl ?_
  refine s_i (pc1 := 3) (ls1 := [some (.ref 16), some (.ref 3), some (.ref 1), none, none, none, none]) (st1 := [(.ref 16)]) rfl rfl fun x1 e2 => ?_
  have e2t : x1.toInt = -6 := by rw [e2]; rfl
  refine s_pi J 6 rfl rfl rfl rfl rfl rfl rfl (by omega) (by omega) fun w3 J4 w3e => ?_
  have w3f := fv_st J.1 (p := 16) (kf := 0) rfl (by decide) w3e
  refine aw_step (f1 := (7, [some (.ref 16), some (.ref 3), some (.ref 1), none, none, none, none], [(.ref 16)])) (w1 := w3) rfl rfl ?_
  refine s_i (pc1 := 9) (ls1 := [some (.ref 16), some (.ref 3), some (.ref 1), none, none, none, none]) (st1 := [(.ref 16)]) rfl rfl fun x5 e6 => ?_
  have e6t : x5.toInt = -6 := by rw [e6]; rfl
  refine s_pi J4 12 rfl rfl rfl rfl rfl rfl rfl (by omega) (by omega) fun w7 J8 w7e => ?_
  have w7f := fv_st J4.1 (p := 16) (kf := 1) rfl (by decide) w7e
  refine aw_step (f1 := (13, [some (.ref 16), some (.ref 3), some (.ref 1), none, none, none, none], [(.ref 16)])) (w1 := w7) rfl rfl ?_
  refine aw_step (f1 := (14, [some (.ref 16), some (.ref 3), some (.ref 1), none, none, none, none], [(.ref 3), (.ref 16)])) (w1 := w7) rfl rfl ?_
  refine s_gi J8 17 rfl rfl rfl rfl rfl rfl fun x9 x9a x9b x9f => ?_
  have x9v : x9.toInt = fI w 3 2 := by rw [← fI_of x9f, w7f.1.fIe (by decide), w3f.1.fIe (by decide)]
  refine s_pi J8 20 rfl rfl rfl rfl rfl rfl rfl (by omega) (by omega) fun w10 J11 w10e => ?_
  have w10f := fv_st J8.1 (p := 16) (kf := 2) rfl (by decide) w10e
  refine aw_step (f1 := (21, [some (.ref 16), some (.ref 3), some (.ref 1), none, none, none, none], [(.ref 16)])) (w1 := w10) rfl rfl ?_
  refine s_i (pc1 := 22) (ls1 := [some (.ref 16), some (.ref 3), some (.ref 1), none, none, none, none]) (st1 := [(.ref 16)]) rfl rfl fun x12 e13 => ?_
  have e13t : x12.toInt = 0 := by rw [e13]; rfl
  refine s_pi J11 25 rfl rfl rfl rfl rfl rfl rfl (by omega) (by omega) fun w14 J15 w14e => ?_
  have w14f := fv_st J11.1 (p := 16) (kf := 3) rfl (by decide) w14e
  refine aw_step (f1 := (26, [some (.ref 16), some (.ref 3), some (.ref 1), none, none, none, none], [(.ref 16)])) (w1 := w14) rfl rfl ?_
  refine s_i (pc1 := 27) (ls1 := [some (.ref 16), some (.ref 3), some (.ref 1), none, none, none, none]) (st1 := [(.ref 16)]) rfl rfl fun x16 e17 => ?_
  have e17t : x16.toInt = 0 := by rw [e17]; rfl
  refine s_pi J15 30 rfl rfl rfl rfl rfl rfl rfl (by omega) (by omega) fun w18 J19 w18e => ?_
  have w18f := fv_st J15.1 (p := 16) (kf := 4) rfl (by decide) w18e
  refine aw_step (f1 := (31, [some (.ref 16), some (.ref 3), some (.ref 1), none, none, none, none], [(.ref 16)])) (w1 := w18) rfl rfl ?_
  refine s_gr 17 J19 34 rfl rfl rfl rfl rfl rfl ?_
  refine s_i (pc1 := 35) (ls1 := [some (.ref 16), some (.ref 3), some (.ref 1), none, none, none, none]) (st1 := [(.ref 17)]) rfl rfl fun x20 e21 => ?_
  have e21t : x20.toInt = 0 := by rw [e21]; rfl
  refine s_cs (z := 192) (as := [(.ref 17), (.int x20)]) (st1 := []) 38 rfl rfl rfl rfl rfl rfl (Nat.le_of_ble_eq_true rfl) (Nat.le_of_ble_eq_true rfl) (Nat.le_of_ble_eq_true rfl) (e_fill17 x20 J19.1) ?_
  rintro _ w22 ⟨rfl, J23c, w22o, w22p⟩
  have J23 := J19.trans J23c
  refine ⟨am_len2 J19 J23c, ?_⟩
  show aw none _ 56 _ (38, [some (.ref 16), some (.ref 3), some (.ref 1), none, none, none, none], []) w22
  refine s_i (pc1 := 39) (ls1 := [some (.ref 16), some (.ref 3), some (.ref 1), none, none, none, none]) (st1 := []) rfl rfl fun x24 e25 => ?_
  have e25t : x24.toInt = 0 := by rw [e25]; rfl
  refine aw_step (f1 := (40, [some (.ref 16), some (.ref 3), some (.ref 1), some (.int x24), none, none, none], [])) (w1 := w22) rfl rfl ?_
  have jc : JC w22 (j0 V) := by
    refine ⟨?_, ?_, ?_, fun b hb => ?_⟩
    · rw [w22o.fIe (by decide), fI_eq (w18f.2.2 2 (by decide)), fI_eq (w14f.2.2 2 (by decide)), fI_of w10f.2.1]; show _ = V 2; omega
    · rw [w22o.fIe (by decide), fI_eq (w18f.2.2 3 (by decide)), fI_of w14f.2.1]; show _ = (0 : Int); omega
    · rw [w22o.fIe (by decide), fI_of w18f.2.1]; show _ = (0 : Int); omega
    · rw [w22p b hb]; show _ = j0 V (3 + b); unfold j0; rw [if_neg (by omega)]; omega
  exact e_flL R RP hw I (n.toNat + 1) w22 (j0 V) x24 _ _ _ (by omega) (by omega) (by omega) J23 ((((((w3f.1.sub (qs := [16, 17]) (by decide)).trans (w7f.1.sub (by decide))).trans (w10f.1.sub (by decide))).trans (w14f.1.sub (by decide))).trans (w18f.1.sub (by decide))).trans (w22o.sub (by decide))) jc (by rw [w22o.fIe (by decide), fI_eq (w18f.2.2 0 (by decide)), fI_eq (w14f.2.2 0 (by decide)), fI_eq (w10f.2.2 0 (by decide)), fI_eq (w7f.2.2 0 (by decide)), fI_of w3f.2.1]; omega) (by rw [w22o.fIe (by decide), fI_eq (w18f.2.2 1 (by decide)), fI_eq (w14f.2.2 1 (by decide)), fI_eq (w10f.2.2 1 (by decide)), fI_of w7f.2.1]; omega) (by rw [show x24.toInt = 0 by omega]; exact ⟨⟨by omega, by omega, by omega⟩, rfl, j0_B hh⟩)
theorem e_judge {d : Nat} {w : am_W} {V P : Nat → Int} {n : Int} (R : RCs w 3 V) (RP : RCp w n P) (hh : 0 ≤ V 2 ∧ V 2 < szV V) (k : Int32) (I : ab_inv ab_TT ab_sets w) : aw none (d + 5) 70 (fun r w1 => ab_J ab_TT ab_sets ab_WR w w1 ∧ ∃ z : Int32, r = some (.int z) ∧ judP V n P k.toInt z.toInt) (0, am_entry 70 [.ref 0, .int k], []) w := by
  have J : ab_J ab_TT ab_sets ab_WR w w := ⟨I, ab_fr.rf⟩
  have hn := RP.1
  have hP : rI w 2 = P := funext RP.2
  have nb := fI_in (p := 1) (k := 1) I rfl rfl
  show aw none (d + 5) 70 _ (0, [some (.ref 0), some (.int k)], []) w
  refine aw_step (f1 := (1, [some (.ref 0), some (.int k)], [(.int k)])) (w1 := w) rfl rfl ?_
  refine s_i (pc1 := 2) (ls1 := [some (.ref 0), some (.int k)]) (st1 := [(.int k)]) rfl rfl fun x1 e2 => ?_
  have e2t : x1.toInt = 0 := by rw [e2]; rfl
  refine s_i (pc1 := 4) (ls1 := [some (.ref 0), some (.int k)]) (st1 := [(.int x1), (.int k)]) rfl rfl fun x3 e4 => ?_
  have e4t : x3.toInt = 7 := by rw [e4]; rfl
  refine s_cs (z := 102) (as := [(.int k), (.int x1), (.int x3)]) (st1 := []) 7 rfl rfl rfl rfl rfl rfl (Nat.le_of_ble_eq_true rfl) (Nat.le_of_ble_eq_true rfl) (Nat.le_of_ble_eq_true rfl) (q_within k x1 x3) ?_
  rintro _ _ ⟨rfl, x5, rfl, x5t⟩
  refine ⟨rfl, ?_⟩
  show aw none _ 70 _ (7, [some (.ref 0), some (.int k)], [(.int x5)]) w
  refine s_if 13 10 rfl rfl rfl (fun (h6 : ¬ x5.toInt = 0) => ?_) (fun (h6 : ¬ (¬ x5.toInt = 0)) => ?_)
  · --
    refine aw_step (f1 := (14, [some (.ref 0), some (.int k)], [(.ref 0)])) (w1 := w) rfl rfl ?_
    refine s_gr 1 J 17 rfl rfl rfl rfl rfl rfl ?_
    refine s_cv (z := 13) (p := 1) (as := []) (st1 := []) J 20 rfl rfl rfl rfl rfl rfl rfl rfl (Nat.le_of_ble_eq_true rfl) (Nat.le_of_ble_eq_true rfl) (e_faultOfWalk J.1) ?_
    rintro _ _ ⟨rfl, x7, rfl, x7t⟩
    refine ⟨rfl, ?_⟩
    show aw none _ 70 _ (20, [some (.ref 0), some (.int k)], [(.int x7)]) w
    rw [hn, hP] at x7t
    have fo := fltW_ok x7t (by omega)
    refine s_i (pc1 := 22) (ls1 := [some (.ref 0), some (.int k)]) (st1 := [(.int x7)]) rfl rfl fun x8 e9 => ?_
    have e9t : x8.toInt = -6 := by rw [e9]; rfl
    refine s_ic 28 25 rfl rfl rfl (fun (h10 : x7.toInt = x8.toInt) => ?_) (fun (h10 : ¬ (x7.toInt = x8.toInt)) => ?_)
    · --
      have hwl : wlk P n := (fo.resolve_right (fun q => by omega)).2
      refine aw_step (f1 := (29, [some (.ref 0), some (.int k)], [(.ref 0)])) (w1 := w) rfl rfl ?_
      refine s_gr 16 J 32 rfl rfl rfl rfl rfl rfl ?_
      refine aw_step (f1 := (33, [some (.ref 0), some (.int k)], [(.ref 0), (.ref 16)])) (w1 := w) rfl rfl ?_
      refine s_gr 3 J 36 rfl rfl rfl rfl rfl rfl ?_
      refine aw_step (f1 := (37, [some (.ref 0), some (.int k)], [(.ref 0), (.ref 3), (.ref 16)])) (w1 := w) rfl rfl ?_
      refine s_gr 1 J 40 rfl rfl rfl rfl rfl rfl ?_
      refine s_cv (z := 56) (p := 16) (as := [(.ref 3), (.ref 1)]) (st1 := []) J 43 rfl rfl rfl rfl rfl rfl rfl rfl (Nat.le_of_ble_eq_true rfl) (Nat.le_of_ble_eq_true rfl) (e_flw R RP hwl hh J.1) ?_
      rintro _ w11 ⟨rfl, J12c, w11o, w11e⟩
      have J12 := J.trans J12c
      refine ⟨am_len2 J J12c, ?_⟩
      show aw none _ 70 _ (43, [some (.ref 0), some (.int k)], []) w11
      obtain ⟨st, jc, je⟩ := w11e
      refine aw_step (f1 := (44, [some (.ref 0), some (.int k)], [(.int k)])) (w1 := w11) rfl rfl ?_
      refine s_i (pc1 := 45) (ls1 := [some (.ref 0), some (.int k)]) (st1 := [(.int k)]) rfl rfl fun x13 e14 => ?_
      have e14t : x13.toInt = 2 := by rw [e14]; rfl
      refine s_ic 63 48 rfl rfl rfl (fun (h15 : k.toInt < x13.toInt) => ?_) (fun (h15 : ¬ (k.toInt < x13.toInt)) => ?_)
      · --
        refine aw_step (f1 := (64, [some (.ref 0), some (.int k)], [(.int k)])) (w1 := w11) rfl rfl ?_
        rcases (show (k.toInt < 0 ∨ 3 < k.toInt) ∨ k.toInt = 0 ∨ k.toInt = 1 ∨ k.toInt = 2 ∨ k.toInt = 3 from by omega) with h16 | h16 | h16 | h16 | h16
        · refine s_swd 128 rfl rfl h16 ?_
          refine aw_step (f1 := (129, [some (.ref 0), some (.int k)], [(.ref 0)])) (w1 := w11) rfl rfl ?_
          refine s_gr 16 J12 132 rfl rfl rfl rfl rfl rfl ?_
          refine s_gr 17 J12 135 rfl rfl rfl rfl rfl rfl ?_
          refine aw_step (f1 := (136, [some (.ref 0), some (.int k)], [(.int k), (.ref 17)])) (w1 := w11) rfl rfl ?_
          refine s_i (pc1 := 137) (ls1 := [some (.ref 0), some (.int k)]) (st1 := [(.int k), (.ref 17)]) rfl rfl fun x17 e18 => ?_
          have e18t : x17.toInt = 4 := by rw [e18]; rfl
          refine s_i (pc1 := 138) (ls1 := [some (.ref 0), some (.int k)]) (st1 := [(.ref 17)]) rfl rfl fun x19 e20 => ?_
          have e20 : x19 = k - x17 := e20
          have e20t : x19.toInt = k.toInt - x17.toInt := by rw [e20]; exact n_sub (by omega) (by omega)
          --
          refine s_ia J12 139 rfl rfl rfl rfl (by omega) (by omega) fun x21 x21a x21b x21f => ?_
          have x21w : x21.toInt = rI w11 17 x19.toInt.toNat := (rI_of x21f).symm
          refine aw_ret (v := some (.int x21)) rfl rfl ?_
          have j1 := jc.1
          have j2 := jc.2.1
          have j3 := jc.2.2.1
          exact ⟨J12, x21, rfl, Or.inr (Or.inr ⟨⟨by omega, by omega⟩, hwl, _, _, st, je, Or.inr (Or.inr (Or.inr (Or.inr (Or.inr ⟨by omega, by omega, by rw [x21w, show x19.toInt.toNat = (k.toInt - 4).toNat by omega]; exact jc.2.2.2 _ (by omega)⟩))))⟩)⟩
        · refine s_swj (j := 0) 96 rfl (by omega) (by omega) (by omega) rfl rfl ?_
          refine aw_step (f1 := (97, [some (.ref 0), some (.int k)], [(.ref 0)])) (w1 := w11) rfl rfl ?_
          refine s_gr 16 J12 100 rfl rfl rfl rfl rfl rfl ?_
          refine s_gi J12 103 rfl rfl rfl rfl rfl rfl fun x22 x22a x22b x22f => ?_
          have hp0 := fI_of x22f
          refine aw_ret (v := some (.int x22)) rfl rfl ?_
          have j1 := jc.1
          have j2 := jc.2.1
          have j3 := jc.2.2.1
          exact ⟨J12, x22, rfl, Or.inr (Or.inr ⟨⟨by omega, by omega⟩, hwl, _, _, st, je, Or.inr (Or.inl ⟨by omega, by omega⟩)⟩)⟩
        · refine s_swj (j := 1) 104 rfl (by omega) (by omega) (by omega) rfl rfl ?_
          refine aw_step (f1 := (105, [some (.ref 0), some (.int k)], [(.ref 0)])) (w1 := w11) rfl rfl ?_
          refine s_gr 16 J12 108 rfl rfl rfl rfl rfl rfl ?_
          refine s_gi J12 111 rfl rfl rfl rfl rfl rfl fun x23 x23a x23b x23f => ?_
          have hp1 := fI_of x23f
          refine aw_ret (v := some (.int x23)) rfl rfl ?_
          have j1 := jc.1
          have j2 := jc.2.1
          have j3 := jc.2.2.1
          exact ⟨J12, x23, rfl, Or.inr (Or.inr ⟨⟨by omega, by omega⟩, hwl, _, _, st, je, Or.inr (Or.inr (Or.inl ⟨by omega, by omega⟩))⟩)⟩
        · refine s_swj (j := 2) 112 rfl (by omega) (by omega) (by omega) rfl rfl ?_
          refine aw_step (f1 := (113, [some (.ref 0), some (.int k)], [(.ref 0)])) (w1 := w11) rfl rfl ?_
          refine s_gr 16 J12 116 rfl rfl rfl rfl rfl rfl ?_
          refine s_gi J12 119 rfl rfl rfl rfl rfl rfl fun x24 x24a x24b x24f => ?_
          have hp2 := fI_of x24f
          refine aw_ret (v := some (.int x24)) rfl rfl ?_
          have j1 := jc.1
          have j2 := jc.2.1
          have j3 := jc.2.2.1
          exact ⟨J12, x24, rfl, Or.inr (Or.inr ⟨⟨by omega, by omega⟩, hwl, _, _, st, je, Or.inr (Or.inr (Or.inr (Or.inl ⟨by omega, by omega, by omega⟩)))⟩)⟩
        · refine s_swj (j := 3) 120 rfl (by omega) (by omega) (by omega) rfl rfl ?_
          refine aw_step (f1 := (121, [some (.ref 0), some (.int k)], [(.ref 0)])) (w1 := w11) rfl rfl ?_
          refine s_gr 16 J12 124 rfl rfl rfl rfl rfl rfl ?_
          refine s_gi J12 127 rfl rfl rfl rfl rfl rfl fun x25 x25a x25b x25f => ?_
          have hp3 := fI_of x25f
          refine aw_ret (v := some (.int x25)) rfl rfl ?_
          have j1 := jc.1
          have j2 := jc.2.1
          have j3 := jc.2.2.1
          exact ⟨J12, x25, rfl, Or.inr (Or.inr ⟨⟨by omega, by omega⟩, hwl, _, _, st, je, Or.inr (Or.inr (Or.inr (Or.inr (Or.inl ⟨by omega, by omega, by omega⟩))))⟩)⟩
      · --
        refine aw_step (f1 := (49, [some (.ref 0), some (.int k)], [(.ref 0)])) (w1 := w11) rfl rfl ?_
        refine s_gr 16 J12 52 rfl rfl rfl rfl rfl rfl ?_
        refine s_gi J12 55 rfl rfl rfl rfl rfl rfl fun x26 x26a x26b x26f => ?_
        have hpt := fI_of x26f
        refine s_i (pc1 := 57) (ls1 := [some (.ref 0), some (.int k)]) (st1 := [(.int x26)]) rfl rfl fun x27 e28 => ?_
        have e28t : x27.toInt = -6 := by rw [e28]; rfl
        refine s_ic 63 60 rfl rfl rfl (fun (h29 : x26.toInt = x27.toInt) => ?_) (fun (h29 : ¬ (x26.toInt = x27.toInt)) => ?_)
        · --
          refine aw_step (f1 := (64, [some (.ref 0), some (.int k)], [(.int k)])) (w1 := w11) rfl rfl ?_
          rcases (show (k.toInt < 0 ∨ 3 < k.toInt) ∨ k.toInt = 0 ∨ k.toInt = 1 ∨ k.toInt = 2 ∨ k.toInt = 3 from by omega) with h30 | h30 | h30 | h30 | h30
          · refine s_swd 128 rfl rfl h30 ?_
            refine aw_step (f1 := (129, [some (.ref 0), some (.int k)], [(.ref 0)])) (w1 := w11) rfl rfl ?_
            refine s_gr 16 J12 132 rfl rfl rfl rfl rfl rfl ?_
            refine s_gr 17 J12 135 rfl rfl rfl rfl rfl rfl ?_
            refine aw_step (f1 := (136, [some (.ref 0), some (.int k)], [(.int k), (.ref 17)])) (w1 := w11) rfl rfl ?_
            refine s_i (pc1 := 137) (ls1 := [some (.ref 0), some (.int k)]) (st1 := [(.int k), (.ref 17)]) rfl rfl fun x31 e32 => ?_
            have e32t : x31.toInt = 4 := by rw [e32]; rfl
            refine s_i (pc1 := 138) (ls1 := [some (.ref 0), some (.int k)]) (st1 := [(.ref 17)]) rfl rfl fun x33 e34 => ?_
            have e34 : x33 = k - x31 := e34
            have e34t : x33.toInt = k.toInt - x31.toInt := by rw [e34]; exact n_sub (by omega) (by omega)
            --
            refine s_ia J12 139 rfl rfl rfl rfl (by omega) (by omega) fun x35 x35a x35b x35f => ?_
            have x35w : x35.toInt = rI w11 17 x33.toInt.toNat := (rI_of x35f).symm
            refine aw_ret (v := some (.int x35)) rfl rfl ?_
            have j1 := jc.1
            have j2 := jc.2.1
            have j3 := jc.2.2.1
            exact ⟨J12, x35, rfl, Or.inr (Or.inr ⟨⟨by omega, by omega⟩, hwl, _, _, st, je, Or.inr (Or.inr (Or.inr (Or.inr (Or.inr ⟨by omega, by omega, by rw [x35w, show x33.toInt.toNat = (k.toInt - 4).toNat by omega]; exact jc.2.2.2 _ (by omega)⟩))))⟩)⟩
          · refine s_swj (j := 0) 96 rfl (by omega) (by omega) (by omega) rfl rfl ?_
            refine aw_step (f1 := (97, [some (.ref 0), some (.int k)], [(.ref 0)])) (w1 := w11) rfl rfl ?_
            refine s_gr 16 J12 100 rfl rfl rfl rfl rfl rfl ?_
            refine s_gi J12 103 rfl rfl rfl rfl rfl rfl fun x36 x36a x36b x36f => ?_
            have hp0 := fI_of x36f
            refine aw_ret (v := some (.int x36)) rfl rfl ?_
            have j1 := jc.1
            have j2 := jc.2.1
            have j3 := jc.2.2.1
            exact ⟨J12, x36, rfl, Or.inr (Or.inr ⟨⟨by omega, by omega⟩, hwl, _, _, st, je, Or.inr (Or.inl ⟨by omega, by omega⟩)⟩)⟩
          · refine s_swj (j := 1) 104 rfl (by omega) (by omega) (by omega) rfl rfl ?_
            refine aw_step (f1 := (105, [some (.ref 0), some (.int k)], [(.ref 0)])) (w1 := w11) rfl rfl ?_
            refine s_gr 16 J12 108 rfl rfl rfl rfl rfl rfl ?_
            refine s_gi J12 111 rfl rfl rfl rfl rfl rfl fun x37 x37a x37b x37f => ?_
            have hp1 := fI_of x37f
            refine aw_ret (v := some (.int x37)) rfl rfl ?_
            have j1 := jc.1
            have j2 := jc.2.1
            have j3 := jc.2.2.1
            exact ⟨J12, x37, rfl, Or.inr (Or.inr ⟨⟨by omega, by omega⟩, hwl, _, _, st, je, Or.inr (Or.inr (Or.inl ⟨by omega, by omega⟩))⟩)⟩
          · refine s_swj (j := 2) 112 rfl (by omega) (by omega) (by omega) rfl rfl ?_
            refine aw_step (f1 := (113, [some (.ref 0), some (.int k)], [(.ref 0)])) (w1 := w11) rfl rfl ?_
            refine s_gr 16 J12 116 rfl rfl rfl rfl rfl rfl ?_
            refine s_gi J12 119 rfl rfl rfl rfl rfl rfl fun x38 x38a x38b x38f => ?_
            have hp2 := fI_of x38f
            refine aw_ret (v := some (.int x38)) rfl rfl ?_
            have j1 := jc.1
            have j2 := jc.2.1
            have j3 := jc.2.2.1
            exact ⟨J12, x38, rfl, Or.inr (Or.inr ⟨⟨by omega, by omega⟩, hwl, _, _, st, je, Or.inr (Or.inr (Or.inr (Or.inl ⟨by omega, by omega, by omega⟩)))⟩)⟩
          · refine s_swj (j := 3) 120 rfl (by omega) (by omega) (by omega) rfl rfl ?_
            refine aw_step (f1 := (121, [some (.ref 0), some (.int k)], [(.ref 0)])) (w1 := w11) rfl rfl ?_
            refine s_gr 16 J12 124 rfl rfl rfl rfl rfl rfl ?_
            refine s_gi J12 127 rfl rfl rfl rfl rfl rfl fun x39 x39a x39b x39f => ?_
            have hp3 := fI_of x39f
            refine aw_ret (v := some (.int x39)) rfl rfl ?_
            have j1 := jc.1
            have j2 := jc.2.1
            have j3 := jc.2.2.1
            exact ⟨J12, x39, rfl, Or.inr (Or.inr ⟨⟨by omega, by omega⟩, hwl, _, _, st, je, Or.inr (Or.inr (Or.inr (Or.inr (Or.inl ⟨by omega, by omega, by omega⟩))))⟩)⟩
        · --
          --
          refine s_i (pc1 := 62) (ls1 := [some (.ref 0), some (.int k)]) (st1 := []) rfl rfl fun x40 e41 => ?_
          have e41t : x40.toInt = -3 := by rw [e41]; rfl
          refine aw_ret (v := some (.int x40)) rfl rfl ?_
          have j1 := jc.1
          have j2 := jc.2.1
          have j3 := jc.2.2.1
          exact ⟨J12, x40, rfl, Or.inr (Or.inr ⟨⟨by omega, by omega⟩, hwl, _, _, st, je, Or.inl ⟨by omega, by omega, by omega⟩⟩)⟩
    · --
      refine s_i (pc1 := 27) (ls1 := [some (.ref 0), some (.int k)]) (st1 := []) rfl rfl fun x42 e43 => ?_
      have e43t : x42.toInt = -5 := by rw [e43]; rfl
      refine aw_ret (v := some (.int x42)) rfl rfl ?_
      first
        | exact ⟨J, x42, rfl, Or.inl ⟨by omega, by omega⟩⟩
        | exact ⟨J, x42, rfl, Or.inr (Or.inl ⟨⟨by omega, by omega⟩, by omega, (fo.resolve_left (fun q => by omega)).2⟩)⟩
  · --
    refine s_i (pc1 := 12) (ls1 := [some (.ref 0), some (.int k)]) (st1 := []) rfl rfl fun x44 e45 => ?_
    have e45t : x44.toInt = -2 := by rw [e45]; rfl
    refine aw_ret (v := some (.int x44)) rfl rfl ?_
    first
      | exact ⟨J, x44, rfl, Or.inl ⟨by omega, by omega⟩⟩
      | exact ⟨J, x44, rfl, Or.inr (Or.inl ⟨⟨by omega, by omega⟩, by omega, (fo.resolve_left (fun q => by omega)).2⟩)⟩
