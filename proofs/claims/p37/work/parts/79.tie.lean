/-! ===== the tie: one abstract state on both sides ===== -/
noncomputable def RCk (w : am_W) (F : Nat → Int) (K : Nat → Nat → Int) : Prop := (∀ n, n < 2 → rI w 15 n = F n) ∧ ∀ n, n < 2 → F n = 1 → RCs w (43 + 11 * n) (K n)
noncomputable def RMk (w : am_W) (F : Nat → Int) (K : Nat → Nat → Int) : Prop := (∀ n, n < 2 → rI w 88 n = F n) ∧ ∀ n, n < 2 → F n = 1 → ∀ j, j < 76 → rLi w 87 (100 * n + j) = K n j
noncomputable def RC (w : am_W) (n : Int) (P V F : Nat → Int) (K : Nat → Nat → Int) : Prop := RCp w n P ∧ RCs w 3 V ∧ RCk w F K
noncomputable def RM (w : am_W) (n : Int) (P V F : Nat → Int) (K : Nat → Nat → Int) : Prop := RMp w n P ∧ RMs w V ∧ RMk w F K
noncomputable def ldV (V : Nat → Int) (c : Int) : Prop := 0 ≤ c ∧ c < szV V ∧ V (40 + c.toNat) ≠ 126
noncomputable def gV (V : Nat → Int) : Prop := (0 ≤ V 6 ∧ V 6 ≤ 15) ∧ ((1 ≤ V 0 ∧ V 0 ≤ 6) ∧ 1 ≤ V 1 ∧ V 1 ≤ 6) ∧ ldV V (V 2) ∧ (∀ p : Nat, p < 4 → bt (V 6).toNat p = 1 → ldV V (V (8 + 4 * p + 2))) ∧ ∀ i : Nat, (i : Int) < V 7 → 0 ≤ V (24 + 2 * i + 0) ∧ V (24 + 2 * i + 0) < szV V
theorem ldV.upv {V : Nat → Int} {c x : Int} {k : Nat} (h : ldV V c) (h2 : 2 ≤ k) (h40 : k < 40) : ldV (upv V k x) c := ⟨h.1, by rw [szV_n h2]; exact h.2.1, by rw [upv_n (by omega)]; exact h.2.2⟩
/-- an entry that gV doesn't speak of -/
theorem gV.irr {V : Nat → Int} {x : Int} {k : Nat} (g : gV V) (h : k = 3 ∨ k = 4 ∨ k = 5 ∨ (8 ≤ k ∧ k < 24 ∧ (k % 4 = 0 ∨ k % 4 = 1))) : gV (upv V k x) := by
  obtain ⟨g1, g2, g3, g4, g5⟩ := g
  unfold gV
  rw [upv_n (j := 6) (by omega), upv_n (j := 0) (by omega), upv_n (j := 1) (by omega), upv_n (j := 2) (by omega), upv_n (j := 7) (by omega)]
  refine ⟨g1, g2, g3.upv (by omega) (by omega), fun p hp hb => ?_, fun i hi => ?_⟩
  · rw [upv_n (by omega)]; exact (g4 p hp hb).upv (by omega) (by omega)
  · rw [upv_n (by omega), szV_n (by omega)]; exact g5 i hi
theorem gV.home {V : Nat → Int} {c : Int} (g : gV V) (h : ldV V c) : gV (upv V 2 c) := by
  obtain ⟨g1, g2, g3, g4, g5⟩ := g
  unfold gV
  rw [upv_n (j := 6) (by omega), upv_n (j := 0) (by omega), upv_n (j := 1) (by omega), upv_s, upv_n (j := 7) (by omega)]
  refine ⟨g1, g2, h.upv (by omega) (by omega), fun p hp hb => ?_, fun i hi => ?_⟩
  · rw [upv_n (by omega)]; exact (g4 p hp hb).upv (by omega) (by omega)
  · rw [upv_n (by omega), szV_n (by omega)]; exact g5 i hi
theorem bt_15 : ∀ x, x < 16 → ∀ p, p < 4 → ∀ q, q < 4 → (bt (x ||| 2 ^ p) q = 0 ∨ q = p ∨ bt x q = 1) ∧ (bt (x &&& (15 - 2 ^ p)) q = 0 ∨ bt x q = 1) := by decide +kernel
theorem po_in {x p : Int} (hx : 0 ≤ x ∧ x ≤ 15) (hp : 0 ≤ p ∧ p ≤ 3) : (0 ≤ po x p ∧ po x p ≤ 15) ∧ 0 ≤ pa x p ∧ pa x p ≤ 15 := by
  have h := t_po x.toNat (by omega) p.toNat (by omega)
  unfold po pa
  omega
theorem gV.person {V : Nat → Int} {p c b : Int} (g : gV V) (hp : 0 ≤ p ∧ p ≤ 3) (h : ldV V c) : gV (upv (upv (upv V 6 (po (V 6) p)) (8 + 4 * p.toNat + 2) c) (8 + 4 * p.toNat + 3) b) := by
  obtain ⟨g1, g2, g3, g4, g5⟩ := g
  have pi := (po_in g1 hp).1
  have e6 : upv (upv (upv V 6 (po (V 6) p)) (8 + 4 * p.toNat + 2) c) (8 + 4 * p.toNat + 3) b 6 = po (V 6) p := by rw [upv_n (by omega), upv_n (by omega), upv_s]
  have ez : ∀ y, ldV V y → ldV (upv (upv (upv V 6 (po (V 6) p)) (8 + 4 * p.toNat + 2) c) (8 + 4 * p.toNat + 3) b) y := fun y hy => ((hy.upv (by omega) (by omega)).upv (by omega) (by omega)).upv (by omega) (by omega)
  have en : ∀ j, j ≠ 6 → j ≠ 8 + 4 * p.toNat + 2 → j ≠ 8 + 4 * p.toNat + 3 → upv (upv (upv V 6 (po (V 6) p)) (8 + 4 * p.toNat + 2) c) (8 + 4 * p.toNat + 3) b j = V j := fun j a b c => by rw [upv_n c, upv_n b, upv_n a]
  unfold gV
  rw [e6, en 0 (by omega) (by omega) (by omega), en 1 (by omega) (by omega) (by omega), en 2 (by omega) (by omega) (by omega), en 7 (by omega) (by omega) (by omega)]
  refine ⟨pi, g2, ez _ g3, fun q hq hb => ?_, fun i hi => ?_⟩
  · by_cases e : q = p.toNat
    · rw [e, upv_n (by omega), upv_s]; exact ez _ h
    · rw [en _ (by omega) (by omega) (by omega)]
      refine ez _ (g4 q hq ?_)
      have k := (bt_15 (V 6).toNat (by omega) p.toNat (by omega) q hq).1
      have hb : bt ((V 6).toNat ||| 2 ^ p.toNat) q = 1 := hb
      omega
  · rw [en _ (by omega) (by omega) (by omega), szV_n (by omega), szV_n (by omega), szV_n (by omega)]; exact g5 i hi
theorem gV.leave {V : Nat → Int} {p : Int} (g : gV V) (hp : 0 ≤ p ∧ p ≤ 3) : gV (upv V 6 (pa (V 6) p)) := by
  obtain ⟨g1, g2, g3, g4, g5⟩ := g
  have pi := (po_in g1 hp).2
  unfold gV
  rw [upv_s, upv_n (j := 0) (by omega), upv_n (j := 1) (by omega), upv_n (j := 2) (by omega), upv_n (j := 7) (by omega)]
  refine ⟨pi, g2, g3.upv (by omega) (by omega), fun q hq hb => ?_, fun i hi => ?_⟩
  · rw [upv_n (by omega)]
    refine (g4 q hq ?_).upv (by omega) (by omega)
    have k := (bt_15 (V 6).toNat (by omega) p.toNat (by omega) q hq).2
    have hb : bt ((V 6).toNat &&& (15 - 2 ^ p.toNat)) q = 1 := hb
    omega
  · rw [upv_n (by omega), szV_n (by omega)]; exact g5 i hi
theorem gV.seen {V : Nat → Int} {m s : Int} (g : gV V) (h7 : 0 ≤ V 7 ∧ V 7 < 8) (hm : 0 ≤ m ∧ m < szV V) : gV (upv (upv (upv V (24 + 2 * (V 7).toNat + 0) m) (24 + 2 * (V 7).toNat + 1) s) 7 (V 7 + 1)) := by
  obtain ⟨g1, g2, g3, g4, g5⟩ := g
  have en : ∀ j, j ≠ 7 → j ≠ 24 + 2 * (V 7).toNat + 0 → j ≠ 24 + 2 * (V 7).toNat + 1 → upv (upv (upv V (24 + 2 * (V 7).toNat + 0) m) (24 + 2 * (V 7).toNat + 1) s) 7 (V 7 + 1) j = V j := fun j a b c => by rw [upv_n a, upv_n c, upv_n b]
  have ez : ∀ y, ldV V y → ldV (upv (upv (upv V (24 + 2 * (V 7).toNat + 0) m) (24 + 2 * (V 7).toNat + 1) s) 7 (V 7 + 1)) y := fun y hy => ((hy.upv (by omega) (by omega)).upv (by omega) (by omega)).upv (by omega) (by omega)
  unfold gV
  rw [en 6 (by omega) (by omega) (by omega), en 0 (by omega) (by omega) (by omega), en 1 (by omega) (by omega) (by omega), en 2 (by omega) (by omega) (by omega), upv_s]
  refine ⟨g1, g2, ez _ g3, fun q hq hb => ?_, fun i hi => ?_⟩
  · rw [en _ (by omega) (by omega) (by omega)]; exact ez _ (g4 q hq hb)
  · rw [szV_n (by omega), szV_n (by omega), szV_n (by omega)]
    by_cases e : i = (V 7).toNat
    · rw [e, upv_n (by omega), upv_n (by omega), upv_s]; exact hm
    · rw [en _ (by omega) (by omega) (by omega)]; exact g5 i (by omega)
theorem gV.forget {V : Nat → Int} (g : gV V) : gV (upv V 7 0) := by
  obtain ⟨g1, g2, g3, g4, g5⟩ := g
  unfold gV
  rw [upv_n (j := 6) (by omega), upv_n (j := 0) (by omega), upv_n (j := 1) (by omega), upv_n (j := 2) (by omega), upv_s]
  refine ⟨g1, g2, g3.upv (by omega) (by omega), fun p hp hb => ?_, fun i hi => by omega⟩
  rw [upv_n (by omega)]; exact (g4 p hp hb).upv (by omega) (by omega)
theorem gV.plain {V : Nat → Int} {a b : Int} (ha : 1 ≤ a ∧ a ≤ 6) (hb : 1 ≤ b ∧ b ≤ 6) : gV (plV V a b) := by
  have m := m6 ha.1 ha.2 hb.1 hb.2
  have z : szV (plV V a b) = a * b := rfl
  refine ⟨(show 0 ≤ (0 : Int) ∧ (0 : Int) ≤ 15 by decide), ⟨ha, hb⟩, ?_, fun p hp h => ?_, fun i hi => ?_⟩
  · have q : ldV (plV V a b) 0 := ⟨by decide, by rw [z]; omega, by rw [show ((0 : Int).toNat) = 0 from rfl, plV_c]; decide⟩
    exact q
  · have h : bt 0 p = 1 := h
    rw [bt_z] at h; omega
  · have hi : (i : Int) < 0 := hi
    omega
theorem gV.laid {V P : Nat → Int} {h : Int} (g : gV V) (fr : frst P (szV V) h) : gV (lyV V P h) := by
  obtain ⟨g1, g2, g3, g4, g5⟩ := g
  have n0 : lyV V P h 0 = V 0 := lyV_n (by decide) (by decide) (by decide) (by decide) (by decide)
  have n1 : lyV V P h 1 = V 1 := lyV_n (by decide) (by decide) (by decide) (by decide) (by decide)
  refine ⟨(show 0 ≤ (0 : Int) ∧ (0 : Int) ≤ 15 by decide), by rw [n0, n1]; exact g2, ?_, fun p hp h => ?_, fun i hi => ?_⟩
  · have q : ldV (lyV V P h) h := ⟨fr.1.1, by rw [lyV_z]; exact fr.1.2, by rw [lyV_c (by have := fr.1; omega)]; exact fr.2.1⟩
    exact q
  · have h : bt 0 p = 1 := h
    rw [bt_z] at h; omega
  · have hi : (i : Int) < 0 := hi
    omega
noncomputable def gA (n : Int) (V F : Nat → Int) (K : Nat → Nat → Int) : Prop := 0 ≤ n ∧ gV V ∧ ∀ a, a < 2 → F a = 1 → gV (K a)
noncomputable def TI (w : am_W) : Prop := SI w ∧ ∃ n P V F K, gA n V F K ∧ RC w n P V F K ∧ RM w n P V F K
theorem TI.inv {w : am_W} (h : TI w) : ab_inv ab_TT ab_sets w := h.1.1
section TIE
variable {w w1 : am_W} {n : Int} {P V F : Nat → Int} {K : Nat → Nat → Int} {ps : List Nat}
theorem RC.of (h : RC w n P V F K) (O : only ps w w1) (hd : ∀ q ∈ ps, q = 0 ∨ (16 ≤ q ∧ q ≤ 42) ∨ 65 ≤ q) : RC w1 n P V F K := by
  have d : ∀ q, (1 ≤ q ∧ q ≤ 15) ∨ (43 ≤ q ∧ q ≤ 64) → q ∉ ps := fun q hq hm => by have := hd q hm; omega
  refine ⟨⟨by rw [O.fIe (d 1 (by omega))]; exact h.1.1, fun j => by rw [O.rIe (d 2 (by omega))]; exact h.1.2 j⟩, h.2.1.of O (fun r hr => d _ (by omega)), fun a ha => by rw [O.rIe (d 15 (by omega))]; exact h.2.2.1 a ha, fun a ha hf => (h.2.2.2 a ha hf).of O (fun r hr => d _ (by omega))⟩
theorem RM.of (h : RM w n P V F K) (O : only ps w w1) (hd : ∀ q ∈ ps, q ≤ 64) : RM w1 n P V F K := by
  have d : ∀ q, 65 ≤ q → q ∉ ps := fun q hq hm => by have := hd q hm; omega
  refine ⟨⟨by rw [O.fIe (d 65 (by omega))]; exact h.1.1, fun j => by rw [O.rIe (d 73 (by omega))]; exact h.1.2 j⟩, h.2.1.of O (fun q hq _ => d q hq), fun a ha => by rw [O.rIe (d 88 (by omega))]; exact h.2.2.1 a ha, fun a ha hf j hj => by rw [O.rLie (d 87 (by omega))]; exact h.2.2.2 a ha hf j hj⟩
theorem SI.of (H : SI w) (I1 : ab_inv ab_TT ab_sets w1) (O : only ps w w1) (h14 : 14 ∉ ps) (h87 : 87 ∉ ps) (h88 : 88 ∉ ps) : SI w1 := ⟨I1, (O 14 h14).trans H.2.1, H.2.2.of (O 87 h87) (O 88 h88)⟩
theorem WR_only (J : ab_J ab_TT ab_sets ab_WR w w1) : only (65 :: ab_WR.1) w w1 := by
  intro q hq
  refine fr_cell J.2 (fun z => hq (List.mem_cons_of_mem _ z)) (fun k z => ?_)
  have h : ∀ x ∈ ab_WR.2, x.1 = 65 := by decide
  have := h _ z
  exact hq (by rw [show q = 65 from this]; exact List.mem_cons_self)
theorem TI.wx (S : SI w) (rc : RC w n P V F K) (rm : RM w n P V F K) (J : ab_J ab_TT ab_sets ab_WR w w1) : SI w1 ∧ RC w1 n P V F K ∧ RM w1 n P V F K ∧ w1.length = w.length := by
  have O := WR_only J
  have f65 : ∀ k, k ≠ 20 → k ≠ 21 → k ≠ 22 → k ≠ 23 → k ≠ 24 → k ≠ 28 → am_fv w1 65 k = am_fv w 65 k := fun k a b c d e f => fr_fv J S.1 (p := 65) rfl (by decide) (by
    have h : ∀ x ∈ ab_WR.2, x.2 = 20 ∨ x.2 = 21 ∨ x.2 = 22 ∨ x.2 = 23 ∨ x.2 = 24 ∨ x.2 = 28 := by decide
    intro z
    have := h _ z
    omega)
  have s := S.w1 J
  refine ⟨s.1, rc.of O (by decide), ⟨⟨by rw [fI_eq (f65 16 (by decide) (by decide) (by decide) (by decide) (by decide) (by decide))]; exact rm.1.1, fun j => by rw [O.rIe (by decide)]; exact rm.1.2 j⟩, fun j hj => ?_, fun a ha => by rw [O.rIe (by decide)]; exact rm.2.2.1 a ha, fun a ha hf j hj => by rw [O.rLie (by decide)]; exact rm.2.2.2 a ha hf j hj⟩, s.2⟩
  rw [← rm.2.1 j hj]
  exact fld_e (fun k _ a b c d e f _ _ => f65 k a b c d e f) (fun q i a b => O.rIe (by
    have h : ∀ q, q < 73 → ¬ 66 ≤ q ∨ q ∉ (65 :: ab_WR.1) := by decide
    exact (h q (by omega)).resolve_left (fun z => z a))) j
theorem TI.wr (h : TI w) (J : ab_J ab_TT ab_sets ab_WR w w1) : TI w1 ∧ w1.length = w.length := by
  obtain ⟨S, n, P, V, F, K, g, rc, rm⟩ := h
  obtain ⟨s1, rc1, rm1, l1⟩ := TI.wx S rc rm J
  exact ⟨⟨s1, n, P, V, F, K, g, rc1, rm1⟩, l1⟩
theorem RCs.eqs {p : Nat} (R : RCs w p V) (e : ∀ r, r < 11 → w1[p + r]? = w[p + r]?) : RCs w1 p V := by
  have fv : ∀ k, am_fv w1 p k = am_fv w p k := fun k => by unfold am_fv am_fs; rw [show w1[p]? = w[p]? from e 0 (by decide)]
  have ro : ∀ r, r < 11 → ∀ j, rI w1 (p + r) j = rI w (p + r) j := fun r hr j => by unfold rI am_row; rw [e r hr]
  refine ⟨fun j hj => ?_, fun c hc => ?_, fun c => ?_⟩
  · rw [← R.1 j hj]
    unfold sc
    rw [fLi_eq (fv 6), fI_eq (fv _), ro _ (rr_11 j hj).1]
  · rw [ro 1 (by decide), ro 2 (by decide), ro 3 (by decide)]
    exact R.2.1 c hc
  · rw [fL_eq (fv 5)]; exact R.2.2 c
/-! calls that change the scene alone -/
noncomputable def MMs (S : (Nat → Int) → Int → (Nat → Int) → Prop) (b : Int) (w : am_W) : Prop := SI w ∧ ∃ n P V F K V', gA n V F K ∧ RC w n P V' F K ∧ RM w n P V F K ∧ S V b V'
theorem tcs {d z : Nat} {as : List Value} {S : (Nat → Int) → Int → (Nat → Int) → Prop} (H : TI w) (e : ∀ V, RCs w 3 V → gV V → aw none d z (QC w (fun b V1 => S V b V1)) (0, am_entry z as, []) w) : aw none d z (fun r w1 => (ab_inv ab_TT ab_sets w1 ∧ w1.length = w.length) ∧ ∃ b : Int32, r = some (.int b) ∧ MMs S b.toInt w1) (0, am_entry z as, []) w := by
  obtain ⟨s, n, P, V, F, K, g, rc, rm⟩ := H
  refine (e V rc.2.1 g.2.1).mono ?_
  rintro r w1 ⟨I1, O, b, rfl, V', R1, sp⟩
  have O2 : only cS w w1 := O
  refine ⟨⟨I1, by rw [I1.1, s.1.1]⟩, b, rfl, s.of I1 O (by decide) (by decide) (by decide), n, P, V, F, K, V', g, ⟨⟨by rw [O.fIe (by decide)]; exact rc.1.1, fun j => by rw [O.rIe (by decide)]; exact rc.1.2 j⟩, R1, fun a ha => by rw [O.rIe (by decide)]; exact rc.2.2.1 a ha, fun a ha hf => (rc.2.2.2 a ha hf).of O (fun r hr => ?_)⟩, rm.of O (by decide), sp⟩
  have h : ∀ q ∈ cS, q ≤ 13 := by decide
  intro hm
  have := h _ hm
  omega
theorem tms {d z : Nat} {as : List Value} {S : (Nat → Int) → Int → (Nat → Int) → Prop} {b : Int} (M : MMs S b w) (f : ∀ V, RMs w V → gV V → aw none d z (QM w (fun b V1 => S V b V1)) (0, am_entry z as, []) w) (U : ∀ V b V1 b' V2, S V b V1 → S V b' V2 → b' = b ∧ V2 = V1) (G : ∀ V b V1, sOK V → gV V → S V b V1 → gV V1) : aw none d z (fun r w1 => (TI w1 ∧ w1.length = w.length) ∧ ∃ z : Int32, r = some (.int z) ∧ z.toInt = b) (0, am_entry z as, []) w := by
  obtain ⟨s, n, P, V, F, K, V', g, rc, rm, sp⟩ := M
  refine (f V rm.2.1 g.2.1).mono ?_
  rintro r w1 ⟨I1, O, n16, z, rfl, V2, R2, sp2⟩
  obtain ⟨u1, u2⟩ := U V b V' _ V2 sp sp2
  subst u2
  have so : sOK V := (fld_ok s.1).of fun j hj => (rm.2.1 j hj).symm
  exact ⟨⟨⟨s.of I1 O (by decide) (by decide) (by decide), n, P, V2, F, K, ⟨g.1, G V b V2 so g.2.1 sp, g.2.2⟩, rc.of O (by decide), ⟨by rw [n16]; exact rm.1.1, fun j => by rw [O.rIe (by decide)]; exact rm.1.2 j⟩, R2, fun a ha => by rw [O.rIe (by decide)]; exact rm.2.2.1 a ha, fun a ha hf j hj => by rw [O.rLie (by decide)]; exact rm.2.2.2 a ha hf j hj⟩, by rw [I1.1, s.1.1]⟩, z, rfl, u1⟩
/-! calls that change the pad alone -/
noncomputable def MMp (S : Int → (Nat → Int) → Int → Int → (Nat → Int) → Prop) (b : Int) (w : am_W) : Prop := SI w ∧ ∃ n P V F K n' P', gA n V F K ∧ RC w n' P' V F K ∧ RM w n P V F K ∧ S n P b n' P'
theorem tcp {d z : Nat} {as : List Value} {S : Int → (Nat → Int) → Int → Int → (Nat → Int) → Prop} (H : TI w) (e : ∀ n P, RCp w n P → aw none d z (QCp w (fun b n1 P1 => S n P b n1 P1)) (0, am_entry z as, []) w) : aw none d z (fun r w1 => (ab_inv ab_TT ab_sets w1 ∧ w1.length = w.length) ∧ ∃ b : Int32, r = some (.int b) ∧ MMp S b.toInt w1) (0, am_entry z as, []) w := by
  obtain ⟨s, n, P, V, F, K, g, rc, rm⟩ := H
  refine (e n P rc.1).mono ?_
  rintro r w1 ⟨I1, O, b, rfl, n', P', R1, sp⟩
  exact ⟨⟨I1, by rw [I1.1, s.1.1]⟩, b, rfl, s.of I1 O (by decide) (by decide) (by decide), n, P, V, F, K, n', P', g, ⟨R1, rc.2.1.of O (by decide), fun a ha => by rw [O.rIe (by decide)]; exact rc.2.2.1 a ha, fun a ha hf => (rc.2.2.2 a ha hf).of O (fun r hr => by simp only [List.mem_cons, List.mem_nil_iff, or_false]; omega)⟩, rm.of O (by decide), sp⟩
theorem tmp {d z : Nat} {as : List Value} {S : Int → (Nat → Int) → Int → Int → (Nat → Int) → Prop} {b : Int} (M : MMp S b w) (f : ∀ n P V, RMs w V → RMp w n P → aw none d z (QMp w V (fun b n1 P1 => S n P b n1 P1)) (0, am_entry z as, []) w) (U : ∀ n P b n1 P1 b' n2 P2, S n P b n1 P1 → S n P b' n2 P2 → b' = b ∧ n2 = n1 ∧ P2 = P1) (G : ∀ n P b n1 P1, 0 ≤ n → S n P b n1 P1 → 0 ≤ n1) : aw none d z (fun r w1 => (TI w1 ∧ w1.length = w.length) ∧ ∃ z : Int32, r = some (.int z) ∧ z.toInt = b) (0, am_entry z as, []) w := by
  obtain ⟨s, n, P, V, F, K, n', P', g, rc, rm, sp⟩ := M
  refine (f n P V rm.2.1 rm.1).mono ?_
  rintro r w1 ⟨I1, O, R2, z, rfl, n2, P2, Rp, sp2⟩
  obtain ⟨u1, u2, u3⟩ := U n P b n' P' _ n2 P2 sp sp2
  subst u2
  subst u3
  exact ⟨⟨⟨s.of I1 O (by decide) (by decide) (by decide), n2, P2, V, F, K, ⟨G n P b n2 P2 g.1 sp, g.2⟩, rc.of O (by decide), Rp, R2, fun a ha => by rw [O.rIe (by decide)]; exact rm.2.2.1 a ha, fun a ha hf j hj => by rw [O.rLie (by decide)]; exact rm.2.2.2 a ha hf j hj⟩, by rw [I1.1, s.1.1]⟩, z, rfl, u1⟩
/-! calls that change nothing -/
noncomputable def MMq (S : Int → (Nat → Int) → (Nat → Int) → Int → Prop) (b : Int) (w : am_W) : Prop := SI w ∧ ∃ n P V F K, gA n V F K ∧ RC w n P V F K ∧ RM w n P V F K ∧ S n P V b
theorem tcq {d z : Nat} {as : List Value} {S : Int → (Nat → Int) → (Nat → Int) → Int → Prop} (H : TI w) (e : ∀ n P V, RCs w 3 V → RCp w n P → gV V → aw none d z (fun r w1 => w = w1 ∧ ∃ b : Int32, r = some (.int b) ∧ S n P V b.toInt) (0, am_entry z as, []) w) : aw none d z (fun r w1 => (ab_inv ab_TT ab_sets w1 ∧ w1.length = w.length) ∧ ∃ b : Int32, r = some (.int b) ∧ MMq S b.toInt w1) (0, am_entry z as, []) w := by
  obtain ⟨s, n, P, V, F, K, g, rc, rm⟩ := H
  refine (e n P V rc.2.1 rc.1 g.2.1).mono ?_
  rintro r w1 ⟨rfl, b, rfl, sp⟩
  exact ⟨⟨s.1, rfl⟩, b, rfl, s, n, P, V, F, K, g, rc, rm, sp⟩
theorem tmq {d z : Nat} {as : List Value} {S : Int → (Nat → Int) → (Nat → Int) → Int → Prop} {b : Int} (M : MMq S b w) (f : ∀ n P V, RMs w V → RMp w n P → gV V → aw none d z (fun r w1 => w = w1 ∧ ∃ b : Int32, r = some (.int b) ∧ S n P V b.toInt) (0, am_entry z as, []) w) (U : ∀ n P V b b', 0 ≤ n → S n P V b → S n P V b' → b' = b) : aw none d z (fun r w1 => (TI w1 ∧ w1.length = w.length) ∧ ∃ z : Int32, r = some (.int z) ∧ z.toInt = b) (0, am_entry z as, []) w := by
  obtain ⟨s, n, P, V, F, K, g, rc, rm, sp⟩ := M
  refine (f n P V rm.2.1 rm.1 g.2.1).mono ?_
  rintro r w1 ⟨rfl, z, rfl, sp2⟩
  exact ⟨⟨⟨s, n, P, V, F, K, g, rc, rm⟩, rfl⟩, z, rfl, U n P V b _ g.1 sp sp2⟩
end TIE
theorem TI.w1 {w w1 : am_W} (h : TI w) (J : ab_J ab_TT ab_sets ab_WR w w1) : TI w1 ∧ w1.length = w.length := h.wr J
theorem tcql {w : am_W} {d z : Nat} {as : List Value} {S : Int → (Nat → Int) → (Nat → Int) → Int → Prop} (H : TI w) (e : ∀ n P V, RCs w 3 V → RCp w n P → gV V → aw none d z (fun r w1 => w = w1 ∧ ∃ b : Int64, r = some (.long b) ∧ S n P V b.toInt) (0, am_entry z as, []) w) : aw none d z (fun r w1 => (ab_inv ab_TT ab_sets w1 ∧ w1.length = w.length) ∧ ∃ b : Int64, r = some (.long b) ∧ MMq S b.toInt w1) (0, am_entry z as, []) w := by
  obtain ⟨s, n, P, V, F, K, g, rc, rm⟩ := H
  refine (e n P V rc.2.1 rc.1 g.2.1).mono ?_
  rintro r w1 ⟨rfl, b, rfl, sp⟩
  exact ⟨⟨s.1, rfl⟩, b, rfl, s, n, P, V, F, K, g, rc, rm, sp⟩
theorem tmql {w : am_W} {d z : Nat} {as : List Value} {S : Int → (Nat → Int) → (Nat → Int) → Int → Prop} {b : Int} (M : MMq S b w) (f : ∀ n P V, RMs w V → RMp w n P → gV V → aw none d z (fun r w1 => w = w1 ∧ ∃ b : Int64, r = some (.long b) ∧ S n P V b.toInt) (0, am_entry z as, []) w) (U : ∀ n P V b b', 0 ≤ n → S n P V b → S n P V b' → b' = b) : aw none d z (fun r w1 => (TI w1 ∧ w1.length = w.length) ∧ ∃ z : Int64, r = some (.long z) ∧ z.toInt = b) (0, am_entry z as, []) w := by
  obtain ⟨s, n, P, V, F, K, g, rc, rm, sp⟩ := M
  refine (f n P V rm.2.1 rm.1 g.2.1).mono ?_
  rintro r w1 ⟨rfl, z, rfl, sp2⟩
  exact ⟨⟨⟨s, n, P, V, F, K, g, rc, rm⟩, rfl⟩, z, rfl, U n P V b _ g.1 sp sp2⟩
/-! the same, where work rows are written -/
theorem tcw {w : am_W} {d z : Nat} {as : List Value} {S : Int → (Nat → Int) → (Nat → Int) → Int → Prop} (H : TI w) (e : ∀ n P V, RCs w 3 V → RCp w n P → gV V → aw none d z (fun r w1 => ab_J ab_TT ab_sets ab_WR w w1 ∧ ∃ b : Int32, r = some (.int b) ∧ S n P V b.toInt) (0, am_entry z as, []) w) : aw none d z (fun r w1 => (ab_inv ab_TT ab_sets w1 ∧ w1.length = w.length) ∧ ∃ b : Int32, r = some (.int b) ∧ MMq S b.toInt w1) (0, am_entry z as, []) w := by
  obtain ⟨s, n, P, V, F, K, g, rc, rm⟩ := H
  refine (e n P V rc.2.1 rc.1 g.2.1).mono ?_
  rintro r w1 ⟨J, b, rfl, sp⟩
  obtain ⟨s1, rc1, rm1, l1⟩ := TI.wx s rc rm J
  exact ⟨⟨s1.1, l1⟩, b, rfl, s1, n, P, V, F, K, g, rc1, rm1, sp⟩
theorem tmw {w : am_W} {d z : Nat} {as : List Value} {S : Int → (Nat → Int) → (Nat → Int) → Int → Prop} {b : Int} (M : MMq S b w) (f : ∀ n P V, RMs w V → RMp w n P → gV V → aw none d z (fun r w1 => ab_J ab_TT ab_sets ab_WR w w1 ∧ ∃ b : Int32, r = some (.int b) ∧ S n P V b.toInt) (0, am_entry z as, []) w) (U : ∀ n P V b b', 0 ≤ n → gV V → S n P V b → S n P V b' → b' = b) : aw none d z (fun r w1 => (TI w1 ∧ w1.length = w.length) ∧ ∃ z : Int32, r = some (.int z) ∧ z.toInt = b) (0, am_entry z as, []) w := by
  obtain ⟨s, n, P, V, F, K, g, rc, rm, sp⟩ := M
  refine (f n P V rm.2.1 rm.1 g.2.1).mono ?_
  rintro r w1 ⟨J, z, rfl, sp2⟩
  obtain ⟨s1, rc1, rm1, l1⟩ := TI.wx s rc rm J
  exact ⟨⟨⟨s1, n, P, V, F, K, g, rc1, rm1⟩, l1⟩, z, rfl, U n P V b _ g.1 g.2.1 sp sp2⟩
theorem tcwl {w : am_W} {d z : Nat} {as : List Value} {S : Int → (Nat → Int) → (Nat → Int) → Int → Prop} (H : TI w) (e : ∀ n P V, RCs w 3 V → RCp w n P → gV V → aw none d z (fun r w1 => ab_J ab_TT ab_sets ab_WR w w1 ∧ ∃ b : Int64, r = some (.long b) ∧ S n P V b.toInt) (0, am_entry z as, []) w) : aw none d z (fun r w1 => (ab_inv ab_TT ab_sets w1 ∧ w1.length = w.length) ∧ ∃ b : Int64, r = some (.long b) ∧ MMq S b.toInt w1) (0, am_entry z as, []) w := by
  obtain ⟨s, n, P, V, F, K, g, rc, rm⟩ := H
  refine (e n P V rc.2.1 rc.1 g.2.1).mono ?_
  rintro r w1 ⟨J, b, rfl, sp⟩
  obtain ⟨s1, rc1, rm1, l1⟩ := TI.wx s rc rm J
  exact ⟨⟨s1.1, l1⟩, b, rfl, s1, n, P, V, F, K, g, rc1, rm1, sp⟩
theorem tmwl {w : am_W} {d z : Nat} {as : List Value} {S : Int → (Nat → Int) → (Nat → Int) → Int → Prop} {b : Int} (M : MMq S b w) (f : ∀ n P V, RMs w V → RMp w n P → gV V → aw none d z (fun r w1 => ab_J ab_TT ab_sets ab_WR w w1 ∧ ∃ b : Int64, r = some (.long b) ∧ S n P V b.toInt) (0, am_entry z as, []) w) (U : ∀ n P V b b', 0 ≤ n → gV V → S n P V b → S n P V b' → b' = b) : aw none d z (fun r w1 => (TI w1 ∧ w1.length = w.length) ∧ ∃ z : Int64, r = some (.long z) ∧ z.toInt = b) (0, am_entry z as, []) w := by
  obtain ⟨s, n, P, V, F, K, g, rc, rm, sp⟩ := M
  refine (f n P V rm.2.1 rm.1 g.2.1).mono ?_
  rintro r w1 ⟨J, z, rfl, sp2⟩
  obtain ⟨s1, rc1, rm1, l1⟩ := TI.wx s rc rm J
  exact ⟨⟨⟨s1, n, P, V, F, K, g, rc1, rm1⟩, l1⟩, z, rfl, U n P V b _ g.1 g.2.1 sp sp2⟩
/-! lay -/
noncomputable def MMl (b : Int) (w : am_W) : Prop := SI w ∧ ∃ n P V F K n' V', gA n V F K ∧ RC w n' P V' F K ∧ RM w n P V F K ∧ layP V n P b V' n'
theorem layP.uniq {V : Nat → Int} {n : Int} {P : Nat → Int} {b b' : Int} {V1 V2 : Nat → Int} {n1 n2 : Int} (h : layP V n P b V1 n1) (g : layP V n P b' V2 n2) : b' = b ∧ V2 = V1 ∧ n2 = n1 := by
  rcases h with ⟨a1, a2, a3, a4⟩ | ⟨a1, a2, a3, a4, a5⟩ | ⟨a1, a2, h, D, a3, a4, a5, a6⟩ <;> rcases g with ⟨b1, b2, b3, b4⟩ | ⟨b1, b2, b3, b4, b5⟩ | ⟨b1, b2, h', D', b3, b4, b5, b6⟩
  · exact ⟨by omega, by rw [a3, b3], by omega⟩
  · exact absurd b2 a2
  · exact absurd b1 a2
  · exact absurd a2 b2
  · exact ⟨by omega, by rw [a4, b4], by omega⟩
  · exact absurd (a3 h'.toNat (by have := b1.1; have := b3.1; omega)) b3.2.1
  · exact absurd a1 b2
  · exact absurd (b3 h.toNat (by have := a1.1; have := a3.1; omega)) a3.2.1
  · have e := a3.uniq b3
    subst e
    have : D = D' := bt_eq fun j => by
      have p := a5 j
      have q := b5 j
      have l1 := bt_le D j
      have l2 := bt_le D' j
      by_cases z : bt D j = 1
      · rw [z, q.mpr (p.mp z)]
      · have : ¬ bt D' j = 1 := fun y => z (p.mpr (q.mp y))
        omega
    subst this
    exact ⟨by omega, by rw [a4, b4], by omega⟩
theorem tc_lay {w : am_W} (H : TI w) : aw none 40 64 (fun r w1 => (ab_inv ab_TT ab_sets w1 ∧ w1.length = w.length) ∧ ∃ b : Int32, r = some (.int b) ∧ MMl b.toInt w1) (0, am_entry 64 [.ref 0], []) w := by
  obtain ⟨s, n, P, V, F, K, g, rc, rm⟩ := H
  refine ((e_lay (d := 0) rc.2.1 rc.1 s.1).deep (by omega)).mono ?_
  rintro r w1 ⟨I1, O, b, rfl, V', n', R1, Rp, sp⟩
  refine ⟨⟨I1, by rw [I1.1, s.1.1]⟩, b, rfl, s.of I1 O (by decide) (by decide) (by decide), n, P, V, F, K, n', V', g, ⟨Rp, R1, fun a ha => by rw [O.rIe (by decide)]; exact rc.2.2.1 a ha, fun a ha hf => (rc.2.2.2 a ha hf).of O (fun r hr => ?_)⟩, rm.of O (by decide), sp⟩
  have h : ∀ q ∈ cL, q ≤ 13 := by decide
  intro hm
  have := h _ hm
  omega
theorem tm_lay {w : am_W} {b : Int} (M : MMl b w) : aw none 40 124 (fun r w1 => (TI w1 ∧ w1.length = w.length) ∧ ∃ z : Int32, r = some (.int z) ∧ z.toInt = b) (0, am_entry 124 [.ref 65], []) w := by
  obtain ⟨s, n, P, V, F, K, n', V', g, rc, rm, sp⟩ := M
  refine ((f_lay (d := 0) rm.2.1 rm.1 s.1).deep (by omega)).mono ?_
  rintro r w1 ⟨I1, O, z, rfl, V2, n2, R2, Rp, sp2⟩
  obtain ⟨u1, u2, u3⟩ := sp.uniq sp2
  subst u2
  subst u3
  have gg : 0 ≤ n2 ∧ gV V2 := by
    rcases sp with ⟨a1, a2, a3, a4⟩ | ⟨a1, a2, a3, a4, a5⟩ | ⟨a1, a2, h, D, a3, a4, a5, a6⟩
    · rw [a3]; exact ⟨by have := g.1; omega, g.2.1⟩
    · rw [a4]; exact ⟨by have := g.1; omega, g.2.1⟩
    · rw [a4]; exact ⟨by omega, g.2.1.laid a3⟩
  exact ⟨⟨⟨s.of I1 O (by decide) (by decide) (by decide), n2, P, V2, F, K, ⟨gg.1, gg.2, g.2.2⟩, rc.of O (by decide), Rp, R2, fun a ha => by rw [O.rIe (by decide)]; exact rm.2.2.1 a ha, fun a ha hf j hj => by rw [O.rLie (by decide)]; exact rm.2.2.2 a ha hf j hj⟩, by rw [I1.1, s.1.1]⟩, z, rfl, u1⟩
/-! images -/
noncomputable def upk (K : Nat → Nat → Int) (n : Nat) (V : Nat → Int) : Nat → Nat → Int := fun m => if m = n then V else K m
noncomputable def MM_image (a b : Int) (w : am_W) : Prop := SI w ∧ ∃ n P V F K, gA n V F K ∧ RM w n P V F K ∧ ((b = -2 ∧ (a < 0 ∨ 1 < a) ∧ RC w n P V F K) ∨ (b = 1 ∧ (0 ≤ a ∧ a ≤ 1) ∧ RC w n P V (upv F a.toNat 1) (upk K a.toNat V)))
theorem cpy_only {p q : Nat} {w w1 : am_W} (C : cpyP p q w w1) {ps : List Nat} (h : ∀ r, r < 11 → p + r ∈ ps) : only ps w w1 := fun x hx => C.1 x (by
  apply Classical.byContradiction
  intro z
  refine hx ?_
  have := h (x - p) (by omega)
  rw [show p + (x - p) = x by omega] at this
  exact this)
theorem tc_image {w : am_W} (a0 : Int32) (H : TI w) : aw none 40 93 (fun r w1 => (ab_inv ab_TT ab_sets w1 ∧ w1.length = w.length) ∧ ∃ b : Int32, r = some (.int b) ∧ MM_image a0.toInt b.toInt w1) (0, am_entry 93 [.ref 0, .int a0], []) w := by
  obtain ⟨s, n, P, V, F, K, g, rc, rm⟩ := H
  refine ((y_image (d := 0) a0 s.1 s.2.1).deep (by omega)).mono ?_
  rintro r w1 ⟨I1, b, rfl, sp⟩
  refine ⟨⟨I1, by rw [I1.1, s.1.1]⟩, b, rfl, ?_⟩
  rcases sp with ⟨b1, b2, rfl⟩ | ⟨b1, b2, w2, C, O, f1, f2⟩
  · exact ⟨s, n, P, V, F, K, g, rm, Or.inl ⟨b1, b2, rc⟩⟩
  · have hn : a0.toInt.toNat < 2 := by omega
    have O2 : ∀ x, (x < 43 + 11 * a0.toInt.toNat ∨ 43 + 11 * a0.toInt.toNat + 10 < x) → x ≠ 15 → w1[x]? = w[x]? := fun x hx h15 => (O x (by simp only [List.mem_singleton]; exact h15)).trans (C.1 x hx)
    have OO : only [15, 43, 44, 45, 46, 47, 48, 49, 50, 51, 52, 53, 54, 55, 56, 57, 58, 59, 60, 61, 62, 63, 64] w w1 := by
      refine (cpy_only C ?_).trans (O.sub (by decide))
      have q : ∀ a, a < 2 → ∀ r, r < 11 → 43 + 11 * a + r ∈ [15, 43, 44, 45, 46, 47, 48, 49, 50, 51, 52, 53, 54, 55, 56, 57, 58, 59, 60, 61, 62, 63, 64] := by decide
      exact q _ hn
    refine ⟨s.of I1 OO (by decide) (by decide) (by decide), n, P, V, F, K, g, rm.of OO (by decide), Or.inr ⟨b1, b2, ⟨by rw [OO.fIe (by decide)]; exact rc.1.1, fun j => by rw [OO.rIe (by decide)]; exact rc.1.2 j⟩, rc.2.1.of OO (by decide), fun a ha => ?_, fun a ha hf => ?_⟩⟩
    · by_cases e : a = a0.toInt.toNat
      · rw [e, upv_s]; exact f1
      · rw [upv_n e, f2 a e]; exact rc.2.2.1 a ha
    · by_cases e : a = a0.toInt.toNat
      · rw [e]
        unfold upk
        rw [if_pos rfl]
        exact (rc.2.1.copy C).of O (fun r hr => by simp only [List.mem_singleton]; omega)
      · unfold upk
        rw [if_neg e]
        rw [upv_n e] at hf
        have R := rc.2.2.2 a ha hf
        have ev : ∀ r, r < 11 → w1[43 + 11 * a + r]? = w[43 + 11 * a + r]? := fun r hr => O2 _ (by omega) (by omega)
        exact R.eqs ev
theorem tm_image {w : am_W} (a0 : Int32) {b : Int} (M : MM_image a0.toInt b w) : aw none 40 183 (fun r w1 => (TI w1 ∧ w1.length = w.length) ∧ ∃ z : Int32, r = some (.int z) ∧ z.toInt = b) (0, am_entry 183 [.ref 65, .int a0], []) w := by
  obtain ⟨s, n, P, V, F, K, g, rm, mm⟩ := M
  refine ((x_image (d := 0) a0 s.1 s.2.2).deep (by omega)).mono ?_
  rintro r w1 ⟨I1, ko, z, rfl, sp⟩
  rcases sp with ⟨z1, z2, rfl⟩ | ⟨z1, z2, O, n16, f1, f2, f3, f4, f5⟩
  · rcases mm with ⟨b1, b2, rc⟩ | ⟨b1, b2, rc⟩
    · exact ⟨⟨⟨s, n, P, V, F, K, g, rc, rm⟩, rfl⟩, z, rfl, by omega⟩
    · omega
  · rcases mm with ⟨b1, b2, rc⟩ | ⟨b1, b2, rc⟩
    · omega
    · have hn : a0.toInt.toNat < 2 := by omega
      refine ⟨⟨⟨⟨I1, (O 14 (by decide)).trans s.2.1, ko⟩, n, P, V, upv F a0.toInt.toNat 1, upk K a0.toInt.toNat V, ⟨g.1, g.2.1, fun a ha hf => ?_⟩, rc.of O (by decide), ⟨by rw [fI_eq n16]; exact rm.1.1, fun j => by rw [O.rIe (by decide)]; exact rm.1.2 j⟩, fun j hj => by rw [f1 j hj]; exact rm.2.1 j hj, fun a ha => ?_, fun a ha hf j hj => ?_⟩, by rw [I1.1, s.1.1]⟩, z, rfl, by omega⟩
      · unfold upk
        by_cases e : a = a0.toInt.toNat
        · rw [if_pos e]; exact g.2.1
        · rw [if_neg e]
          rw [upv_n e] at hf
          exact g.2.2 a ha hf
      · by_cases e : a = a0.toInt.toNat
        · rw [e, upv_s]; exact f4
        · rw [upv_n e, f5 a e]; exact rm.2.2.1 a ha
      · unfold upk
        by_cases e : a = a0.toInt.toNat
        · rw [if_pos e, e, f2 j hj]; exact rm.2.1 j hj
        · rw [if_neg e]
          rw [upv_n e] at hf
          rw [f3 _ (by omega)]
          exact rm.2.2.2 a ha hf j hj
noncomputable def MM_restore (a b : Int) (w : am_W) : Prop := SI w ∧ ∃ n P V F K, gA n V F K ∧ RM w n P V F K ∧ ((b = -2 ∧ (a < 0 ∨ 1 < a) ∧ RC w n P V F K) ∨ (b = -3 ∧ (0 ≤ a ∧ a ≤ 1) ∧ F a.toNat = 0 ∧ RC w n P V F K) ∨ (b = 1 ∧ (0 ≤ a ∧ a ≤ 1) ∧ F a.toNat = 1 ∧ RC w n P (K a.toNat) F K))
theorem rZ01 {w : am_W} (I : ab_inv ab_TT ab_sets w) {p j : Nat} (hT : ab_TT[p]? = some (.inl (1, 2, 0, 1))) (hj : j < 2) : rI w p j = 0 ∨ rI w p j = 1 := by
  obtain ⟨h0, h1, h2⟩ := rZ_len I hT
  unfold rI
  rw [List.getElem?_eq_getElem (by omega)]
  have := h2 _ (List.getElem_mem (show j < (am_row w p).length by omega))
  simp only
  omega
theorem tc_restore {w : am_W} (a0 : Int32) (H : TI w) : aw none 40 94 (fun r w1 => (ab_inv ab_TT ab_sets w1 ∧ w1.length = w.length) ∧ ∃ b : Int32, r = some (.int b) ∧ MM_restore a0.toInt b.toInt w1) (0, am_entry 94 [.ref 0, .int a0], []) w := by
  obtain ⟨s, n, P, V, F, K, g, rc, rm⟩ := H
  refine ((y_restore (d := 0) a0 s.1 s.2.1).deep (by omega)).mono ?_
  rintro r w1 ⟨I1, b, rfl, sp⟩
  refine ⟨⟨I1, by rw [I1.1, s.1.1]⟩, b, rfl, ?_⟩
  rcases sp with ⟨b1, b2, rfl⟩ | ⟨b1, b2, b3, rfl⟩ | ⟨b1, b2, b3, C⟩
  · exact ⟨s, n, P, V, F, K, g, rm, Or.inl ⟨b1, b2, rc⟩⟩
  · exact ⟨s, n, P, V, F, K, g, rm, Or.inr (Or.inl ⟨b1, b2, by rw [← rc.2.2.1 _ (by omega)]; exact b3, rc⟩)⟩
  · have hn : a0.toInt.toNat < 2 := by omega
    have f1 : F a0.toInt.toNat = 1 := by
      rw [← rc.2.2.1 _ hn]
      have := rZ01 s.1 (p := 15) rfl hn
      omega
    have OO : only cS w w1 := cpy_only C (by decide)
    refine ⟨s.of I1 OO (by decide) (by decide) (by decide), n, P, V, F, K, g, rm.of OO (by decide), Or.inr (Or.inr ⟨b1, b2, f1, ⟨by rw [OO.fIe (by decide)]; exact rc.1.1, fun j => by rw [OO.rIe (by decide)]; exact rc.1.2 j⟩, (rc.2.2.2 _ hn f1).copy C, fun a ha => by rw [OO.rIe (by decide)]; exact rc.2.2.1 a ha, fun a ha hf => (rc.2.2.2 a ha hf).of OO (fun r hr => ?_)⟩)⟩
    have h : ∀ q ∈ cS, q ≤ 13 := by decide
    intro hm
    have := h _ hm
    omega
theorem tm_restore {w : am_W} (a0 : Int32) {b : Int} (M : MM_restore a0.toInt b w) : aw none 40 184 (fun r w1 => (TI w1 ∧ w1.length = w.length) ∧ ∃ z : Int32, r = some (.int z) ∧ z.toInt = b) (0, am_entry 184 [.ref 65, .int a0], []) w := by
  obtain ⟨s, n, P, V, F, K, g, rm, mm⟩ := M
  refine ((x_restore (d := 0) a0 s.1 s.2.2).deep (by omega)).mono ?_
  rintro r w1 ⟨I1, ko, z, rfl, sp⟩
  rcases sp with ⟨z1, z2, rfl⟩ | ⟨z1, z2, z3, rfl⟩ | ⟨z1, z2, z3, O, n16, f1, f2, f3⟩
  · rcases mm with ⟨b1, b2, rc⟩ | ⟨b1, b2, b3, rc⟩ | ⟨b1, b2, b3, rc⟩
    · exact ⟨⟨⟨s, n, P, V, F, K, g, rc, rm⟩, rfl⟩, z, rfl, by omega⟩
    · omega
    · omega
  · rw [rm.2.2.1 _ (by omega)] at z3
    rcases mm with ⟨b1, b2, rc⟩ | ⟨b1, b2, b3, rc⟩ | ⟨b1, b2, b3, rc⟩
    · omega
    · exact ⟨⟨⟨s, n, P, V, F, K, g, rc, rm⟩, rfl⟩, z, rfl, by omega⟩
    · omega
  · have hn : a0.toInt.toNat < 2 := by omega
    rw [rm.2.2.1 _ hn] at z3
    rcases mm with ⟨b1, b2, rc⟩ | ⟨b1, b2, b3, rc⟩ | ⟨b1, b2, b3, rc⟩
    · omega
    · omega
    · refine ⟨⟨⟨⟨I1, (O 14 (by decide)).trans s.2.1, ko⟩, n, P, K a0.toInt.toNat, F, K, ⟨g.1, g.2.2 _ hn b3, g.2.2⟩, rc.of O (by decide), ⟨by rw [fI_eq n16]; exact rm.1.1, fun j => by rw [O.rIe (by decide)]; exact rm.1.2 j⟩, fun j hj => by rw [f1 j hj]; exact rm.2.2.2 _ hn b3 j hj, fun a ha => by rw [O.rIe (by decide)]; exact rm.2.2.1 a ha, fun a ha hf j hj => ?_⟩, by rw [I1.1, s.1.1]⟩, z, rfl, by omega⟩
      by_cases e : a = a0.toInt.toNat
      · rw [e, f2 j hj]; exact rm.2.2.2 _ hn b3 j hj
      · rw [f3 _ (by omega)]; exact rm.2.2.2 a ha hf j hj
