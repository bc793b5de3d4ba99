/-! ===== images of the model ===== -/
noncomputable def rLi (w : am_W) (p j : Nat) : Int := match (am_rowl w p)[j]? with
  | some x => x.toInt
  | none => 0
noncomputable def fLi (w : am_W) (p k : Nat) : Int := match am_fv w p k with
  | some (.long x) => x.toInt
  | _ => 0
theorem rLi_of {w : am_W} {p j : Nat} {x : Int64} (h : (am_rowl w p)[j]? = some x) : rLi w p j = x.toInt := by unfold rLi; rw [h]
theorem fLi_of {w : am_W} {p k : Nat} {x : Int64} (h : am_fv w p k = some (.long x)) : fLi w p k = x.toInt := by unfold fLi; rw [h]
theorem only.rLie {ps : List Nat} {w w1 : am_W} (h : only ps w w1) {p j : Nat} (hp : p ∉ ps) : rLi w1 p j = rLi w p j := by unfold rLi; rw [h.rowl hp]
theorem only.fLie {ps : List Nat} {w w1 : am_W} (h : only ps w w1) {p k : Nat} (hp : p ∉ ps) : fLi w1 p k = fLi w p k := by unfold fLi; rw [h.fv hp]
theorem fLi_eq {w w2 : am_W} {p k : Nat} (h : am_fv w2 p k = am_fv w p k) : fLi w2 p k = fLi w p k := by unfold fLi; rw [h]
theorem rLi_st {w w2 : am_W} {p n j : Nat} {x : Int64} {lo hi : Int} (I : ab_inv ab_TT ab_sets w) (hT : ab_TT[p]? = some (.inl (2, n, lo, hi))) (hj : j < n) (e : w2 = w.set p (.inl (.inr (.inl ((am_rowl w p).set j x))))) : only [p] w w2 ∧ rLi w2 p j = x.toInt ∧ ∀ i, i ≠ j → rLi w2 p i = rLi w p i := by
  obtain ⟨h0, h1, -⟩ := rowl_len I hT
  subst e
  refine ⟨only_set, ?_, fun i hi => ?_⟩
  · unfold rLi
    rw [am_rowl_eq h0, List.getElem?_set_self (by omega)]
  · unfold rLi
    rw [am_rowl_eq h0, List.getElem?_set_ne (fun e => hi e.symm)]
noncomputable def fk (j : Nat) : Nat := [0, 1, 3, 4, 7, 8, 9, 14].getD j 0
/-- what is kept, in its order -/
noncomputable def fld (w : am_W) (j : Nat) : Int := if j < 8 then (if j = 3 then fLi w 65 4 else fI w 65 (fk j)) else if j < 24 then rI w (67 + (j - 8) % 4) ((j - 8) / 4) else if j < 40 then rI w (71 + (j - 24) % 2) ((j - 24) / 2) else rI w 66 (j - 40)
theorem fld_a {w : am_W} {i c : Nat} (hi : i < 4) (hc : c < 4) : fld w (8 + 4 * i + c) = rI w (67 + c) i := by
  unfold fld
  rw [if_neg (by omega), if_pos (by omega), show (8 + 4 * i + c - 8) % 4 = c by omega, show (8 + 4 * i + c - 8) / 4 = i by omega]
theorem fld_b {w : am_W} {i c : Nat} (hi : i < 8) (hc : c < 2) : fld w (24 + 2 * i + c) = rI w (71 + c) i := by
  unfold fld
  rw [if_neg (by omega), if_neg (by omega), if_pos (by omega), show (24 + 2 * i + c - 24) % 2 = c by omega, show (24 + 2 * i + c - 24) / 2 = i by omega]
theorem fld_c {w : am_W} {i : Nat} (hi : i < 36) : fld w (40 + i) = rI w 66 i := by
  unfold fld
  rw [if_neg (by omega), if_neg (by omega), if_neg (by omega), show 40 + i - 40 = i by omega]
theorem fld_put {w1 w2 : am_W} {q : Nat} (hq : q < 8) (O : only [65] w1 w2) (h : ∀ k, k ≠ fk q → am_fv w2 65 k = am_fv w1 65 k) {j : Nat} (hj : j ≠ q) : fld w2 j = fld w1 j := by
  unfold fld
  by_cases a : j < 8
  · have hk : fk j ≠ fk q := by
      have : ∀ a, a < 8 → ∀ b, b < 8 → a ≠ b → fk a ≠ fk b := by decide
      exact this j a q hq hj
    rw [if_pos a, if_pos a]
    by_cases b : j = 3
    · rw [if_pos b, if_pos b]
      rw [b] at hk
      exact fLi_eq (h 4 hk)
    · rw [if_neg b, if_neg b]
      exact fI_eq (h _ hk)
  · rw [if_neg a, if_neg a, O.rIe (by simp only [List.mem_singleton]; omega), O.rIe (by simp only [List.mem_singleton]; omega), O.rIe (by decide)]
theorem fld_row {w1 w2 : am_W} {p k : Nat} (O : only [p] w1 w2) (hp : p ≠ 65) (h : ∀ i, i ≠ k → rI w2 p i = rI w1 p i) {j : Nat} (h1 : ¬ (8 ≤ j ∧ j < 24 ∧ 67 + (j - 8) % 4 = p ∧ (j - 8) / 4 = k)) (h2 : ¬ (24 ≤ j ∧ j < 40 ∧ 71 + (j - 24) % 2 = p ∧ (j - 24) / 2 = k)) (h3 : ¬ (40 ≤ j ∧ 66 = p ∧ j - 40 = k)) : fld w2 j = fld w1 j := by
  have g : ∀ q i, ¬ (q = p ∧ i = k) → rI w2 q i = rI w1 q i := by
    intro q i z
    by_cases e : q = p
    · rw [e]; exact h i (fun y => z ⟨e, y⟩)
    · exact O.rIe (by simp only [List.mem_singleton]; exact e)
  have p65 : 65 ∉ [p] := by simp only [List.mem_singleton]; omega
  unfold fld
  by_cases a : j < 8
  · rw [if_pos a, if_pos a, O.fLie p65, O.fIe p65]
  · rw [if_neg a, if_neg a]
    by_cases b : j < 24
    · rw [if_pos b, if_pos b]; exact g _ _ (by omega)
    · rw [if_neg b, if_neg b]
      by_cases c : j < 40
      · rw [if_pos c, if_pos c]; exact g _ _ (by omega)
      · rw [if_neg c, if_neg c]; exact g _ _ (by omega)
noncomputable def sOK (S : Nat → Int) : Prop := (1 ≤ S 0 ∧ S 0 ≤ 6) ∧ (1 ≤ S 1 ∧ S 1 ≤ 6) ∧ (0 ≤ S 2 ∧ S 2 ≤ 35) ∧ (1 ≤ S 4 ∧ S 4 ≤ 9) ∧ (1 ≤ S 5 ∧ S 5 ≤ 9) ∧ (-2147483648 ≤ S 6 ∧ S 6 ≤ 2147483647) ∧ (0 ≤ S 7 ∧ S 7 ≤ 8) ∧ (∀ i : Nat, i < 4 → (1 ≤ S (8 + 4 * i + 0) ∧ S (8 + 4 * i + 0) ≤ 50) ∧ (0 ≤ S (8 + 4 * i + 1) ∧ S (8 + 4 * i + 1) ≤ 99) ∧ (0 ≤ S (8 + 4 * i + 2) ∧ S (8 + 4 * i + 2) ≤ 35) ∧ (0 ≤ S (8 + 4 * i + 3) ∧ S (8 + 4 * i + 3) ≤ 3)) ∧ (∀ i : Nat, i < 8 → (0 ≤ S (24 + 2 * i + 0) ∧ S (24 + 2 * i + 0) ≤ 35) ∧ (0 ≤ S (24 + 2 * i + 1) ∧ S (24 + 2 * i + 1) ≤ 50)) ∧ ∀ i : Nat, i < 36 → 0 ≤ S (40 + i) ∧ S (40 + i) ≤ 126
theorem fld_ok {w : am_W} (I : ab_inv ab_TT ab_sets w) : sOK (fld w) := by
  refine ⟨(show 1 ≤ fI w 65 0 ∧ fI w 65 0 ≤ 6 from fI_in I (p := 65) (k := 0) rfl rfl), (show 1 ≤ fI w 65 1 ∧ fI w 65 1 ≤ 6 from fI_in I (p := 65) (k := 1) rfl rfl), (show 0 ≤ fI w 65 3 ∧ fI w 65 3 ≤ 35 from fI_in I (p := 65) (k := 3) rfl rfl), (show 1 ≤ fI w 65 7 ∧ fI w 65 7 ≤ 9 from fI_in I (p := 65) (k := 7) rfl rfl), (show 1 ≤ fI w 65 8 ∧ fI w 65 8 ≤ 9 from fI_in I (p := 65) (k := 8) rfl rfl), (show -2147483648 ≤ fI w 65 9 ∧ fI w 65 9 ≤ 2147483647 from fI_in I (p := 65) (k := 9) rfl rfl), (show 0 ≤ fI w 65 14 ∧ fI w 65 14 ≤ 8 from fI_in I (p := 65) (k := 14) rfl rfl), fun i hi => ?_, fun i hi => ?_, fun i hi => ?_⟩
  · rw [fld_a hi (by decide), fld_a hi (by decide), fld_a hi (by decide), fld_a hi (by decide)]
    exact ⟨rI_in I (p := 67) rfl hi, rI_in I (p := 68) rfl hi, rI_in I (p := 69) rfl hi, rI_in I (p := 70) rfl hi⟩
  · rw [fld_b hi (by decide), fld_b hi (by decide)]
    exact ⟨rI_in I (p := 71) rfl hi, rI_in I (p := 72) rfl hi⟩
  · rw [fld_c hi]
    exact rI_in I (p := 66) rfl hi
/-- p of the 76 have been passed -/
noncomputable def pJ (b : Nat) (mo : Int) (S : Nat → Int) (wb w : am_W) (p : Nat) : Prop := fI w 65 38 = b + p ∧ fI w 65 39 = mo ∧ (∀ j : Nat, j < p → rLi w 87 (b + j) = S j ∧ fld w j = S j) ∧ (∀ j : Nat, p ≤ j → j < 76 → (mo = 1 ∧ fld w j = S j) ∨ (mo = 0 ∧ rLi w 87 (b + j) = S j)) ∧ ∀ i : Nat, (i < b ∨ b + 76 ≤ i) → rLi w 87 i = rLi wb 87 i
/-- what carry does to the world: s is carried -/
noncomputable def cP (w w1 : am_W) (s : Int) : Prop := only [65, 87] w w1 ∧ rLi w1 87 (fI w 65 38).toNat = s ∧ (∀ i, i ≠ (fI w 65 38).toNat → rLi w1 87 i = rLi w 87 i) ∧ fI w1 65 38 = fI w 65 38 + 1 ∧ ∀ k, k ≠ 38 → am_fv w1 65 k = am_fv w 65 k
noncomputable def cPre (w : am_W) (v s : Int) : Prop := (fI w 65 39 = 1 ∧ v = s) ∨ (fI w 65 39 = 0 ∧ rLi w 87 (fI w 65 38).toNat = s)
theorem pJ.pre {b : Nat} {mo : Int} {S : Nat → Int} {wb w : am_W} {p : Nat} (h : pJ b mo S wb w p) (hp : p < 76) {v : Int} (hv : v = fld w p) : cPre w v (S p) := by
  rcases h.2.2.2.1 p (Nat.le_refl _) hp with q | q
  · exact Or.inl ⟨by rw [h.2.1]; exact q.1, by rw [hv]; exact q.2⟩
  · refine Or.inr ⟨by rw [h.2.1]; exact q.1, ?_⟩
    rw [h.1, show ((b : Int) + (p : Int)).toNat = b + p by omega]
    exact q.2
theorem cP.fl {w w1 : am_W} {s : Int} (h : cP w w1 s) (j : Nat) : fld w1 j = fld w j := by
  have g : ∀ q i, q ≠ 65 → rI w1 q i = rI w q i ∨ q = 87 := by
    intro q i z
    by_cases e : q = 87
    · exact Or.inr e
    · exact Or.inl (h.1.rIe (by simp only [List.mem_cons, List.mem_nil_iff, or_false]; omega))
  unfold fld
  by_cases a : j < 8
  · rw [if_pos a, if_pos a]
    by_cases b : j = 3
    · rw [if_pos b, if_pos b]; exact fLi_eq (h.2.2.2.2 4 (by decide))
    · rw [if_neg b, if_neg b]
      refine fI_eq (h.2.2.2.2 _ ?_)
      have : ∀ a, a < 8 → fk a ≠ 38 := by decide
      exact this j a
  · rw [if_neg a, if_neg a, h.1.rIe (by simp only [List.mem_cons, List.mem_nil_iff, or_false]; omega), h.1.rIe (by simp only [List.mem_cons, List.mem_nil_iff, or_false]; omega), h.1.rIe (by decide)]
theorem pJ.go {b : Nat} {mo : Int} {S : Nat → Int} {wb w w1 w2 : am_W} {p : Nat} (h : pJ b mo S wb w p) (hp : p < 76) (c : cP w w1 (S p)) (g1 : fld w2 p = S p) (g2 : ∀ j, j ≠ p → fld w2 j = fld w1 j) (g3 : ∀ i, rLi w2 87 i = rLi w1 87 i) (g4 : am_fv w2 65 38 = am_fv w1 65 38) (g5 : am_fv w2 65 39 = am_fv w1 65 39) : pJ b mo S wb w2 (p + 1) := by
  obtain ⟨h1, h2, h3, h4, h5⟩ := h
  obtain ⟨c1, c2, c3, c4, c5⟩ := c
  have cf := cP.fl ⟨c1, c2, c3, c4, c5⟩
  have e : (fI w 65 38).toNat = b + p := by omega
  rw [e] at c2 c3
  refine ⟨by rw [fI_eq g4]; omega, by rw [fI_eq g5, fI_eq (c5 39 (by decide))]; exact h2, fun j hj => ?_, fun j hj1 hj2 => ?_, fun i hi => ?_⟩
  · by_cases q : j = p
    · rw [q, g3]; exact ⟨c2, g1⟩
    · have := h3 j (by omega)
      rw [g3, c3 _ (by omega), g2 j q, cf]
      exact this
  · rw [g2 j (by omega), cf, g3, c3 _ (by omega)]
    exact h4 j (by omega) hj2
  · rw [g3, c3 i (by omega)]
    exact h5 i hi
noncomputable def pS : List Nat := [65, 66, 67, 68, 69, 70, 71, 72, 87]
/-- and nothing else has changed -/
noncomputable def pI (b : Nat) (mo : Int) (S : Nat → Int) (wb w : am_W) (p : Nat) : Prop := pJ b mo S wb w p ∧ only pS wb w ∧ am_fv w 65 16 = am_fv wb 65 16
theorem pI.pre {b : Nat} {mo : Int} {S : Nat → Int} {wb w : am_W} {p : Nat} (h : pI b mo S wb w p) (hp : p < 76) {v : Int} (hv : v = fld w p) : cPre w v (S p) := h.1.pre hp hv
theorem pI.go {b : Nat} {mo : Int} {S : Nat → Int} {wb w w1 w2 : am_W} {p : Nat} (h : pI b mo S wb w p) (hp : p < 76) (c : cP w w1 (S p)) (g1 : fld w2 p = S p) (g2 : ∀ j, j ≠ p → fld w2 j = fld w1 j) (g3 : ∀ i, rLi w2 87 i = rLi w1 87 i) (g4 : am_fv w2 65 38 = am_fv w1 65 38) (g5 : am_fv w2 65 39 = am_fv w1 65 39) (g6 : only pS w1 w2) (g7 : am_fv w2 65 16 = am_fv w1 65 16) : pI b mo S wb w2 (p + 1) := ⟨h.1.go hp c g1 g2 g3 g4 g5, (h.2.1.trans (c.1.sub (by decide))).trans g6, (g7.trans (c.2.2.2.2 16 (by decide))).trans h.2.2⟩
theorem q_carry {d : Nat} {w : am_W} (v : Int64) {s : Int} (pr : cPre w v.toInt s) (hk : 0 ≤ fI w 65 38 ∧ fI w 65 38 < 200) (I : ab_inv ab_TT ab_sets w) : aw none d 180 (fun r w1 => ∃ y : Int64, r = some (.long y) ∧ ab_J ab_TT ab_sets ab_WR4 w w1 ∧ y.toInt = s ∧ cP w w1 s) (0, am_entry 180 [.ref 65, .long v], []) w := by
  have J : ab_J ab_TT ab_sets ab_WR4 w w := ⟨I, ab_fr.rf⟩
  have m39 := fI_in (p := 65) (k := 39) I rfl rfl
  unfold cPre at pr
  have av := ab_any64 v
  unfold ab_lo64 ab_hi64 at av
  show aw none d 180 _ (0, [some (.ref 65), some (.long v), none, none, none], []) w
  refine aw_step (f1 := (1, [some (.ref 65), some (.long v), none, none, none], [(.ref 65)])) (w1 := w) rfl rfl ?_
  refine s_gi J 4 rfl rfl rfl rfl rfl rfl fun x1 x1a x1b x1f => ?_
  have h39 := fI_of x1f
  refine s_if 11 7 rfl rfl rfl (fun (h2 : x1.toInt = 0) => ?_) (fun (h2 : ¬ (x1.toInt = 0)) => ?_)
  · --
    refine aw_step (f1 := (12, [some (.ref 65), some (.long v), none, none, none], [(.ref 65)])) (w1 := w) rfl rfl ?_
    refine s_gr 87 J 15 rfl rfl rfl rfl rfl rfl ?_
    refine aw_step (f1 := (16, [some (.ref 65), some (.long v), none, none, none], [(.ref 65), (.ref 87)])) (w1 := w) rfl rfl ?_
    refine s_gi J 19 rfl rfl rfl rfl rfl rfl fun x3 x3a x3b x3f => ?_
    have h38 := fI_of x3f
    refine s_la J 20 rfl rfl rfl (by omega) (by omega) fun y4 y4a y4b y4f => ?_
    --
    refine aw_step (f1 := (21, [some (.ref 65), some (.long v), none, some (.long y4), none], [])) (w1 := w) rfl rfl ?_
    refine aw_step (f1 := (22, [some (.ref 65), some (.long v), none, some (.long y4), none], [(.ref 65)])) (w1 := w) rfl rfl ?_
    refine s_gr 87 J 25 rfl rfl rfl rfl rfl rfl ?_
    refine aw_step (f1 := (26, [some (.ref 65), some (.long v), none, some (.long y4), none], [(.ref 65), (.ref 87)])) (w1 := w) rfl rfl ?_
    refine s_gi J 29 rfl rfl rfl rfl rfl rfl fun x5 x5a x5b x5f => ?_
    have h38b := fI_of x5f
    refine aw_step (f1 := (30, [some (.ref 65), some (.long v), none, some (.long y4), none], [(.long y4), (.int x5), (.ref 87)])) (w1 := w) rfl rfl ?_
    refine s_ls J 31 rfl rfl rfl rfl (by omega) (by omega) (by omega) (by omega) fun w6 J7 w6e => ?_
    have q38a := (rLi_st J.1 (p := 87) (j := x5.toInt.toNat) rfl (by omega) w6e).1.fIe (p := 65) (k := 38) (by decide)
    refine aw_step (f1 := (32, [some (.ref 65), some (.long v), none, some (.long y4), none], [(.ref 65)])) (w1 := w6) rfl rfl ?_
    refine aw_step (f1 := (33, [some (.ref 65), some (.long v), none, some (.long y4), none], [(.ref 65), (.ref 65)])) (w1 := w6) rfl rfl ?_
    refine s_gi J7 36 rfl rfl rfl rfl rfl rfl fun x8 x8a x8b x8f => ?_
    have h38c := fI_of x8f
    refine s_i (pc1 := 37) (ls1 := [some (.ref 65), some (.long v), none, some (.long y4), none]) (st1 := [(.int x8), (.ref 65)]) rfl rfl fun x9 e10 => ?_
    have e10t : x9.toInt = 1 := by rw [e10]; rfl
    refine s_i (pc1 := 38) (ls1 := [some (.ref 65), some (.long v), none, some (.long y4), none]) (st1 := [(.ref 65)]) rfl rfl fun x11 e12 => ?_
    have e12 : x11 = x8 + x9 := e12
    have e12t : x11.toInt = x8.toInt + x9.toInt := by rw [e12]; exact n_add (by omega) (by omega)
    refine s_pi J7 41 rfl rfl rfl rfl rfl rfl rfl (by omega) (by omega) fun w13 J14 w13e => ?_
    refine aw_step (f1 := (42, [some (.ref 65), some (.long v), none, some (.long y4), none], [(.long y4)])) (w1 := w13) rfl rfl ?_
    refine aw_ret (v := some (.long y4)) rfl rfl ?_
    have fs := fv_st J7.1 (p := 65) (kf := 38) rfl (by decide) w13e
    have so := rLi_st J.1 (p := 87) (j := x5.toInt.toNat) rfl (by omega) w6e
    have q38 := so.1.fIe (p := 65) (k := 38) (by decide)
    refine ⟨y4, rfl, J14, ?_, ?_⟩
    · first
        | (rcases pr with q | q <;> omega)
        | (rcases pr with q | q
           · omega
           · have := rLi_of y4f; rw [show x3.toInt.toNat = (fI w 65 38).toNat by omega] at this; omega)
    · refine ⟨?_, ?_, ?_, ?_, ?_⟩
      · exact (so.1.sub (by decide)).trans (fs.1.sub (by decide))
      · rw [fs.1.rLie (by decide), show (fI w 65 38).toNat = x5.toInt.toNat by omega, so.2.1]
        first
          | (rcases pr with q | q <;> omega)
          | (rcases pr with q | q
             · omega
             · have := rLi_of y4f; rw [show x3.toInt.toNat = (fI w 65 38).toNat by omega] at this; omega)
      · intro i hi
        rw [fs.1.rLie (by decide), so.2.2 i (by omega)]
      · rw [fI_of fs.2.1]; omega
      · intro k hk
        rw [fs.2.2 k hk, so.1.fv (by decide)]
  · --
    refine aw_step (f1 := (8, [some (.ref 65), some (.long v), none, none, none], [(.long v)])) (w1 := w) rfl rfl ?_
    refine aw_step (f1 := (20, [some (.ref 65), some (.long v), none, none, none], [(.long v)])) (w1 := w) rfl rfl ?_
    --
    refine aw_step (f1 := (21, [some (.ref 65), some (.long v), none, some (.long v), none], [])) (w1 := w) rfl rfl ?_
    refine aw_step (f1 := (22, [some (.ref 65), some (.long v), none, some (.long v), none], [(.ref 65)])) (w1 := w) rfl rfl ?_
    refine s_gr 87 J 25 rfl rfl rfl rfl rfl rfl ?_
    refine aw_step (f1 := (26, [some (.ref 65), some (.long v), none, some (.long v), none], [(.ref 65), (.ref 87)])) (w1 := w) rfl rfl ?_
    refine s_gi J 29 rfl rfl rfl rfl rfl rfl fun x15 x15a x15b x15f => ?_
    have h38b := fI_of x15f
    refine aw_step (f1 := (30, [some (.ref 65), some (.long v), none, some (.long v), none], [(.long v), (.int x15), (.ref 87)])) (w1 := w) rfl rfl ?_
    refine s_ls J 31 rfl rfl rfl rfl (by omega) (by omega) (by omega) (by omega) fun w16 J17 w16e => ?_
    have q38a := (rLi_st J.1 (p := 87) (j := x15.toInt.toNat) rfl (by omega) w16e).1.fIe (p := 65) (k := 38) (by decide)
    refine aw_step (f1 := (32, [some (.ref 65), some (.long v), none, some (.long v), none], [(.ref 65)])) (w1 := w16) rfl rfl ?_
    refine aw_step (f1 := (33, [some (.ref 65), some (.long v), none, some (.long v), none], [(.ref 65), (.ref 65)])) (w1 := w16) rfl rfl ?_
    refine s_gi J17 36 rfl rfl rfl rfl rfl rfl fun x18 x18a x18b x18f => ?_
    have h38c := fI_of x18f
    refine s_i (pc1 := 37) (ls1 := [some (.ref 65), some (.long v), none, some (.long v), none]) (st1 := [(.int x18), (.ref 65)]) rfl rfl fun x19 e20 => ?_
    have e20t : x19.toInt = 1 := by rw [e20]; rfl
    refine s_i (pc1 := 38) (ls1 := [some (.ref 65), some (.long v), none, some (.long v), none]) (st1 := [(.ref 65)]) rfl rfl fun x21 e22 => ?_
    have e22 : x21 = x18 + x19 := e22
    have e22t : x21.toInt = x18.toInt + x19.toInt := by rw [e22]; exact n_add (by omega) (by omega)
    refine s_pi J17 41 rfl rfl rfl rfl rfl rfl rfl (by omega) (by omega) fun w23 J24 w23e => ?_
    refine aw_step (f1 := (42, [some (.ref 65), some (.long v), none, some (.long v), none], [(.long v)])) (w1 := w23) rfl rfl ?_
    refine aw_ret (v := some (.long v)) rfl rfl ?_
    have fs := fv_st J17.1 (p := 65) (kf := 38) rfl (by decide) w23e
    have so := rLi_st J.1 (p := 87) (j := x15.toInt.toNat) rfl (by omega) w16e
    have q38 := so.1.fIe (p := 65) (k := 38) (by decide)
    refine ⟨v, rfl, J24, ?_, ?_⟩
    · first
        | (rcases pr with q | q <;> omega)
        | (rcases pr with q | q
           · omega
           · have := rLi_of vf; rw [show x3.toInt.toNat = (fI w 65 38).toNat by omega] at this; omega)
    · refine ⟨?_, ?_, ?_, ?_, ?_⟩
      · exact (so.1.sub (by decide)).trans (fs.1.sub (by decide))
      · rw [fs.1.rLie (by decide), show (fI w 65 38).toNat = x15.toInt.toNat by omega, so.2.1]
        first
          | (rcases pr with q | q <;> omega)
          | (rcases pr with q | q
             · omega
             · have := rLi_of vf; rw [show x3.toInt.toNat = (fI w 65 38).toNat by omega] at this; omega)
      · intro i hi
        rw [fs.1.rLie (by decide), so.2.2 i (by omega)]
      · rw [fI_of fs.2.1]; omega
      · intro k hk
        rw [fs.2.2 k hk, so.1.fv (by decide)]
theorem q_pass {d : Nat} {w : am_W} (v : Int32) {s : Int} (pr : cPre w v.toInt s) (hs : -2147483648 ≤ s ∧ s ≤ 2147483647) (hk : 0 ≤ fI w 65 38 ∧ fI w 65 38 < 200) (I : ab_inv ab_TT ab_sets w) : aw none (d + 1) 181 (fun r w1 => ∃ y : Int32, r = some (.int y) ∧ ab_J ab_TT ab_sets ab_WR4 w w1 ∧ y.toInt = s ∧ cP w w1 s) (0, am_entry 181 [.ref 65, .int v], []) w := by
  have J : ab_J ab_TT ab_sets ab_WR4 w w := ⟨I, ab_fr.rf⟩
  show aw none (d + 1) 181 _ (0, [some (.ref 65), some (.int v)], []) w
  refine aw_step (f1 := (1, [some (.ref 65), some (.int v)], [(.ref 65)])) (w1 := w) rfl rfl ?_
  refine aw_step (f1 := (2, [some (.ref 65), some (.int v)], [(.int v), (.ref 65)])) (w1 := w) rfl rfl ?_
  refine s_l (pc1 := 3) (ls1 := [some (.ref 65), some (.int v)]) (st1 := [(.ref 65)]) rfl rfl fun y1 e2 => ?_
  have e2t : y1.toInt = v.toInt := by rw [e2]; exact Int32.toInt_toInt64 v
  refine s_cv (z := 180) (p := 65) (as := [(.long y1)]) (st1 := []) J 6 rfl rfl rfl rfl rfl rfl rfl rfl (Nat.le_of_ble_eq_true rfl) (Nat.le_of_ble_eq_true rfl) (q_carry y1 (s := s) (by rw [e2t]; exact pr) hk J.1) ?_
  rintro _ w4 ⟨y3, rfl, J5c, y3t, y3p⟩
  have J5 := J.trans J5c
  refine ⟨am_len2 J J5c, ?_⟩
  show aw none _ 181 _ (6, [some (.ref 65), some (.int v)], [(.long y3)]) w4
  --
  refine s_i (pc1 := 7) (ls1 := [some (.ref 65), some (.int v)]) (st1 := []) rfl rfl fun x6 e7 => ?_
  have e7 : x6 = y3.toInt32 := e7
  refine aw_ret (v := some (.int x6)) rfl rfl ?_
  exact ⟨x6, rfl, J5, by rw [e7, l_i (by omega) (by omega)]; omega, y3p⟩
