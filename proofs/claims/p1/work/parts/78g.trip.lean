/-! ===== trips: the least cost ===== -/
/-- a walk of n edges from f to t, of cost c -/
noncomputable def wk (E : Nat → Nat → Int → Prop) (f : Nat) : Nat → Nat → Int → Prop
  | 0, t, c => t = f ∧ c = 0
  | n + 1, t, c => ∃ s c0 e, wk E f n s c0 ∧ E s t e ∧ c = c0 + e
noncomputable def nvT (E : Nat → Nat → Int → Prop) (f t : Nat) : Prop := ∀ n c, ¬ wk E f n t c
noncomputable def mnT (E : Nat → Nat → Int → Prop) (f t : Nat) (z : Int) : Prop := (∃ n, wk E f n t z) ∧ ∀ n c, wk E f n t c → z ≤ c
theorem mnT.uniq {E : Nat → Nat → Int → Prop} {f t : Nat} {a b : Int} (h : mnT E f t a) (g : mnT E f t b) : b = a := by
  obtain ⟨⟨n, h1⟩, h2⟩ := h
  obtain ⟨⟨m, g1⟩, g2⟩ := g
  exact Int.le_antisymm (g2 n a h1) (h2 m b g1)
theorem mnT.nv {E : Nat → Nat → Int → Prop} {f t : Nat} {a : Int} (h : mnT E f t a) (g : nvT E f t) : False := by
  obtain ⟨⟨n, h1⟩, h2⟩ := h
  exact g n a h1
noncomputable def ctT (P : Nat → Prop) : Nat → Nat
  | 0 => 0
  | k + 1 => ctT P k + @ite Nat (P k) (Classical.propDecidable _) 1 0
theorem ctT_y {P : Nat → Prop} {k : Nat} (h : P k) : ctT P (k + 1) = ctT P k + 1 := by rw [ctT, if_pos h]
theorem ctT_n {P : Nat → Prop} {k : Nat} (h : ¬ P k) : ctT P (k + 1) = ctT P k := by rw [ctT, if_neg h]; rfl
theorem ctT_le (P : Nat → Prop) : ∀ k, ctT P k ≤ k
  | 0 => Nat.le_refl _
  | k + 1 => by
    have := ctT_le P k
    by_cases q : P k
    · rw [ctT_y q]; omega
    · rw [ctT_n q]; omega
theorem ctT_mono {P Q : Nat → Prop} : ∀ {k : Nat}, (∀ t, t < k → P t → Q t) → ctT P k ≤ ctT Q k
  | 0, _ => Nat.le_refl _
  | k + 1, h => by
    have i := ctT_mono (k := k) (fun t ht => h t (by omega))
    by_cases q : P k
    · rw [ctT_y q, ctT_y (h k (by omega) q)]; omega
    · rw [ctT_n q]
      by_cases q2 : Q k
      · rw [ctT_y q2]; omega
      · rw [ctT_n q2]; exact i
theorem ctT_lt {P Q : Nat → Prop} {a : Nat} (h1 : ¬ P a) (h2 : Q a) : ∀ {k : Nat}, (∀ t, t < k → P t → Q t) → a < k → ctT P k < ctT Q k
  | 0, _, q => by omega
  | k + 1, h, ha => by
    by_cases e : a = k
    · subst e
      have i := ctT_mono (k := a) (fun t ht => h t (by omega))
      rw [ctT_n h1, ctT_y h2]
      omega
    · have i := ctT_lt h1 h2 (k := k) (fun t ht => h t (by omega)) (by omega)
      by_cases q : P k
      · rw [ctT_y q, ctT_y (h k (by omega) q)]; omega
      · rw [ctT_n q]
        by_cases q2 : Q k
        · rw [ctT_y q2]; omega
        · rw [ctT_n q2]; exact i
section TR
variable {E : Nat → Nat → Int → Prop} {f : Nat}
noncomputable def rT (E : Nat → Nat → Int → Prop) (f n t : Nat) : Prop := ∃ m c, m ≤ n ∧ wk E f m t c
theorem rT_s {n t : Nat} (h : rT E f n t) : rT E f (n + 1) t := by
  obtain ⟨m, c, h1, h2⟩ := h
  exact ⟨m, c, by omega, h2⟩
theorem wk_lt (hf : f < 72) (hE : ∀ s t e, E s t e → t < 72 ∧ 0 ≤ e ∧ e ≤ 1000) {n t : Nat} {c : Int} (h : wk E f n t c) : t < 72 := by
  cases n with
  | zero => have h : t = f ∧ c = 0 := h; omega
  | succ n =>
    obtain ⟨s, c0, e, h1, h2, h3⟩ := h
    exact (hE s t e h2).1
theorem wk_b (hE : ∀ s t e, E s t e → t < 72 ∧ 0 ≤ e ∧ e ≤ 1000) : ∀ {n t : Nat} {c : Int}, wk E f n t c → 0 ≤ c ∧ c ≤ 1000 * (n : Int)
  | 0, t, c, h => by have h : t = f ∧ c = 0 := h; omega
  | n + 1, t, c, ⟨s, c0, e, h1, h2, h3⟩ => by
    have a := wk_b hE h1
    have b := hE s t e h2
    omega
theorem rT_gr (hf : f < 72) (n : Nat) (h : ∀ j, j < n → ∃ a, a < 72 ∧ ¬ rT E f j a ∧ rT E f (j + 1) a) : n + 1 ≤ ctT (rT E f n) 72 := by
  induction n with
  | zero =>
    have := ctT_lt (P := fun _ => False) (Q := rT E f 0) (a := f) (fun q => q) ⟨0, 0, Nat.le_refl _, rfl, rfl⟩ (k := 72) (fun t _ q => q.elim) hf
    omega
  | succ n ih =>
    have i := ih (fun j hj => h j (by omega))
    obtain ⟨a, a1, a2, a3⟩ := h n (by omega)
    have := ctT_lt a2 a3 (k := 72) (fun t _ q => rT_s q) a1
    omega
theorem rT_72 (hf : f < 72) (hE : ∀ s t e, E s t e → t < 72 ∧ 0 ≤ e ∧ e ≤ 1000) {n t : Nat} {c : Int} (h : wk E f n t c) : rT E f 72 t := by
  have key : ∃ j, j < 72 ∧ ∀ a, a < 72 → rT E f (j + 1) a → rT E f j a := by
    apply Classical.byContradiction
    intro q
    have g := rT_gr (E := E) hf 72 (fun j hj => by
      apply Classical.byContradiction
      intro z
      apply q
      refine ⟨j, hj, fun a ha hr => ?_⟩
      apply Classical.byContradiction
      intro y
      exact z ⟨a, ha, y, hr⟩)
    have := ctT_le (rT E f 72) 72
    omega
  obtain ⟨j, j1, j2⟩ := key
  have fix : ∀ m a, rT E f m a → rT E f j a := by
    intro m
    induction m with
    | zero =>
      intro a ha
      obtain ⟨m, c, h1, h2⟩ := ha
      exact ⟨m, c, by omega, h2⟩
    | succ m ih =>
      intro a ha
      obtain ⟨p, c, h1, h2⟩ := ha
      cases p with
      | zero => exact ⟨0, c, by omega, h2⟩
      | succ p =>
        obtain ⟨s, c0, e, g1, g2, g3⟩ := h2
        obtain ⟨p2, c2, g4, g5⟩ := ih s ⟨p, c0, by omega, g1⟩
        exact j2 a (hE s a e g2).1 ⟨p2 + 1, c2 + e, by omega, s, c2, e, g5, g2, rfl⟩
  obtain ⟨m, c2, h1, h2⟩ := fix n t ⟨n, c, Nat.le_refl _, h⟩
  exact ⟨m, c2, by omega, h2⟩
theorem fxT {B : Int} {r : Nat → Int} (hB : 72000 < B) (hf : f < 72) (hE : ∀ s t e, E s t e → t < 72 ∧ 0 ≤ e ∧ e ≤ 1000) (h0 : r f ≤ 0) (hb : ∀ t, t < 72 → r t = B ∨ (r t < B ∧ ∃ n, wk E f n t (r t))) (hc : ∀ s t e, s < 72 → r s < B → E s t e → r t ≤ r s + e) {t : Nat} (ht : t < 72) : (r t = B ∧ nvT E f t) ∨ (r t < B ∧ mnT E f t (r t)) := by
  have low : ∀ n t c, wk E f n t c → r t ≤ c := by
    intro n
    induction n with
    | zero => intro t c h; obtain ⟨h1, h2⟩ := h; rw [h1, h2]; exact h0
    | succ n ih =>
      intro t c h
      obtain ⟨s, c0, e, h1, h2, h3⟩ := h
      have a := ih s c0 h1
      have s72 := wk_lt hf hE h1
      have b := hE s t e h2
      rcases hb s s72 with q | q
      · have c1 : r t ≤ B := by
          rcases hb t b.1 with u | u
          · omega
          · have := u.1; omega
        omega
      · have := hc s t e s72 q.1 h2
        omega
  rcases hb t ht with q | ⟨q, n, q2⟩
  · refine Or.inl ⟨q, fun n c h => ?_⟩
    obtain ⟨m, c2, h1, h2⟩ := rT_72 hf hE h
    have a := low m t c2 h2
    have b := wk_b hE h2
    omega
  · exact Or.inr ⟨q, ⟨n, q2⟩, fun m c h => low m t c h⟩
end TR
/-- the least of both places of a cell -/
noncomputable def trR (E : Nat → Nat → Int → Prop) (f t : Nat) (z : Int) : Prop := (z = -6 ∧ nvT E f t ∧ nvT E f (36 + t)) ∨ (mnT E f t z ∧ (nvT E f (36 + t) ∨ ∃ y, mnT E f (36 + t) y ∧ z ≤ y)) ∨ (mnT E f (36 + t) z ∧ (nvT E f t ∨ ∃ y, mnT E f t y ∧ z ≤ y))
theorem trR.uniq {E : Nat → Nat → Int → Prop} {f t : Nat} {a b : Int} (h : trR E f t a) (g : trR E f t b) : b = a := by
  rcases h with ⟨h1, h2, h3⟩ | ⟨h1, h2⟩ | ⟨h1, h2⟩ <;> rcases g with ⟨g1, g2, g3⟩ | ⟨g1, g2⟩ | ⟨g1, g2⟩
  · rw [h1, g1]
  · exact (g1.nv h2).elim
  · exact (g1.nv h3).elim
  · exact (h1.nv g2).elim
  · exact h1.uniq g1
  · rcases h2 with q | ⟨y, q1, q2⟩
    · exact (g1.nv q).elim
    · rcases g2 with u | ⟨x, u1, u2⟩
      · exact (h1.nv u).elim
      · have e1 := q1.uniq g1
        have e2 := u1.uniq h1
        omega
  · exact (h1.nv g3).elim
  · rcases h2 with q | ⟨y, q1, q2⟩
    · exact (g1.nv q).elim
    · rcases g2 with u | ⟨x, u1, u2⟩
      · exact (h1.nv u).elim
      · have e1 := q1.uniq g1
        have e2 := u1.uniq h1
        omega
  · exact h1.uniq g1
theorem trR.of {E : Nat → Nat → Int → Prop} {f t : Nat} {B x y z : Int} (hx : (x = B ∧ nvT E f t) ∨ (x < B ∧ mnT E f t x)) (hy : (y = B ∧ nvT E f (36 + t)) ∨ (y < B ∧ mnT E f (36 + t) y)) (hz : (x = B ∧ y = B ∧ z = -6) ∨ (x < B ∧ x ≤ y ∧ z = x) ∨ (y < B ∧ y ≤ x ∧ z = y)) : trR E f t z := by
  rcases hz with ⟨a, b, c⟩ | ⟨a, b, c⟩ | ⟨a, b, c⟩
  · refine Or.inl ⟨c, ?_, ?_⟩
    · rcases hx with q | q
      · exact q.2
      · omega
    · rcases hy with q | q
      · exact q.2
      · omega
  · subst c
    rcases hx with q | q
    · omega
    · refine Or.inr (Or.inl ⟨q.2, ?_⟩)
      rcases hy with u | u
      · exact Or.inl u.2
      · exact Or.inr ⟨y, u.2, b⟩
  · subst c
    rcases hy with q | q
    · omega
    · refine Or.inr (Or.inr ⟨q.2, ?_⟩)
      rcases hx with u | u
      · exact Or.inl u.2
      · exact Or.inr ⟨x, u.2, b⟩
/-- what may be gone from cell c of side sd -/
noncomputable def EO (V : Nat → Int) (ps oh st ch L : Int) (sd c t : Nat) (e : Int) : Prop := (∃ d : Nat, eV V L c d ∧ t = 36 * sd + d ∧ e = ps + (if V (40 + d) = 94 then oh else 0)) ∨ (0 < st ∧ ∃ d : Nat, eV V 1 c d ∧ t = 36 * sd + d ∧ e = st) ∨ (0 < ch ∧ chB V c = 1 ∧ t = 36 * (1 - sd) + c ∧ e = ch)
noncomputable def ET (V : Nat → Int) (ps oh st ch L0 L1 : Int) (s t : Nat) (e : Int) : Prop := ∃ sd c : Nat, sd < 2 ∧ s = 36 * sd + c ∧ (c < 36 ∧ (c : Int) < szV V ∧ V (40 + c) ≠ 126) ∧ EO V ps oh st ch (if sd = 0 then L0 else L1) sd c t e
/-- prices that may be -/
noncomputable def okT (ps oh st ch : Int) : Prop := (0 ≤ ps ∧ ps + oh ≤ 1000 ∧ ps ≤ 1000) ∧ 0 ≤ oh ∧ (0 ≤ st ∧ st ≤ 1000) ∧ 0 ≤ ch ∧ ch ≤ 1000
theorem ET_b {V : Nat → Int} {ps oh st ch L0 L1 : Int} (hz : szV V ≤ 36) (k : okT ps oh st ch) : ∀ s t e, ET V ps oh st ch L0 L1 s t e → t < 72 ∧ 0 ≤ e ∧ e ≤ 1000 := by
  intro s t e h
  obtain ⟨sd, c, h1, h2, h3, h4⟩ := h
  unfold okT at k
  rcases h4 with ⟨d, a1, a2, a3⟩ | ⟨a0, d, a1, a2, a3⟩ | ⟨a0, a1, a2, a3⟩
  · have := a1.1.1
    refine ⟨by omega, ?_⟩
    rw [a3]
    split <;> omega
  · have := a1.1.1
    exact ⟨by omega, by omega, by omega⟩
  · exact ⟨by omega, by omega, by omega⟩
theorem wk_ld {V : Nat → Int} {ps oh st ch L0 L1 : Int} {f : Nat} (hz : szV V ≤ 36) (hf : (f : Int) < szV V ∧ V (40 + f) ≠ 126) {n t : Nat} {x : Int} (h : wk (ET V ps oh st ch L0 L1) f n t x) : ∃ sd c : Nat, sd < 2 ∧ t = 36 * sd + c ∧ (c < 36 ∧ (c : Int) < szV V ∧ V (40 + c) ≠ 126) := by
  cases n with
  | zero =>
    have h : t = f ∧ x = 0 := h
    exact ⟨0, f, by omega, by omega, by omega, hf.1, hf.2⟩
  | succ n =>
    obtain ⟨s, c0, e, h1, ⟨sd, c, g1, g2, g3, g4⟩, h3⟩ := h
    rcases g4 with ⟨d, a1, a2, a3⟩ | ⟨a0, d, a1, a2, a3⟩ | ⟨a0, a1, a2, a3⟩
    · have := a1.1.1; exact ⟨sd, d, g1, a2, by omega, a1.1.1, a1.1.2⟩
    · have := a1.1.1; exact ⟨sd, d, g1, a2, by omega, a1.1.1, a1.1.2⟩
    · exact ⟨1 - sd, c, by omega, a2, g3⟩
/-- what offers of one place do to the costs, as far as X says -/
noncomputable def ofI (X Y : Nat → Int → Prop) (p : Nat) (r r' : Nat → Int) : Prop := r' p = r p ∧ (∀ t, r' t = r t ∨ (r' t ≤ r t ∧ ∃ e, 0 ≤ e ∧ X t e ∧ r' t = r p + e)) ∧ ∀ t e, Y t e → r' t ≤ r p + e
theorem EIb {d i : Int} (h : d < i + 1) : d < i ∨ (true = true ∧ d = i) := by
  by_cases q : d < i
  · exact Or.inl q
  · exact Or.inr ⟨rfl, by omega⟩
theorem ofI.z {X Y : Nat → Int → Prop} {p : Nat} {r : Nat → Int} (h : ∀ t e, ¬ Y t e) : ofI X Y p r r := ⟨rfl, fun t => Or.inl rfl, fun t e y => absurd y (h t e)⟩
theorem ofI.no {X Y Y' : Nat → Int → Prop} {p : Nat} {r r' : Nat → Int} (h : ofI X Y p r r') (y : ∀ t e, Y' t e → Y t e) : ofI X Y' p r r' := ⟨h.1, h.2.1, fun t e q => h.2.2 t e (y t e q)⟩
theorem ofI.go {X Y Y' : Nat → Int → Prop} {p t0 : Nat} {e0 : Int} {r r' r2 : Nat → Int} (h : ofI X Y p r r') (e1 : 0 ≤ e0) (x : X t0 e0) (a : r2 t0 = if r p + e0 < r' t0 then r p + e0 else r' t0) (b : ∀ j, j ≠ t0 → r2 j = r' j) (y : ∀ t e, Y' t e → Y t e ∨ (t = t0 ∧ e = e0)) : ofI X Y' p r r2 := by
  obtain ⟨h1, h2, h3⟩ := h
  have le : ∀ t, r2 t ≤ r' t := fun t => by
    by_cases q : t = t0
    · subst q; rw [a]; split <;> omega
    · rw [b t q]; exact Int.le_refl _
  refine ⟨?_, fun t => ?_, fun t e q => ?_⟩
  · by_cases q : p = t0
    · subst q; rw [a, if_neg (by omega)]; exact h1
    · rw [b p q]; exact h1
  · by_cases q : t = t0
    · subst q
      rw [a]
      by_cases u : r p + e0 < r' t
      · rw [if_pos u]
        refine Or.inr ⟨?_, e0, e1, x, rfl⟩
        rcases h2 t with v | ⟨v, -⟩ <;> omega
      · rw [if_neg u]; exact h2 t
    · rw [b t q]; exact h2 t
  · rcases y t e q with u | ⟨u, v⟩
    · have := h3 t e u; have := le t; omega
    · rw [u, v, a]; split <;> omega
theorem e_offer {d : Nat} {w : am_W} (t pr : Int32) (ht : 0 ≤ t.toInt ∧ t.toInt < 72) (I : ab_inv ab_TT ab_sets w) : aw none (d + 1) 54 (fun r w1 => r = none ∧ ab_J ab_TT ab_sets ab_WR w w1 ∧ only [22] w w1 ∧ rI w1 22 t.toInt.toNat = (if pr.toInt < rI w 22 t.toInt.toNat then pr.toInt else rI w 22 t.toInt.toNat) ∧ ∀ j, j ≠ t.toInt.toNat → rI w1 22 j = rI w 22 j) (0, am_entry 54 [.ref 21, .int t, .int pr], []) w := by
  have J : ab_J ab_TT ab_sets ab_WR w w := ⟨I, ab_fr.rf⟩
  have zb := ab_any32 pr
  unfold ab_lo32 ab_hi32 at zb
  show aw none (d + 1) 54 _ (0, [some (.ref 21), some (.int t), some (.int pr)], []) w
  refine aw_step (f1 := (1, [some (.ref 21), some (.int t), some (.int pr)], [(.ref 21)])) (w1 := w) rfl rfl ?_
  refine s_gr 22 J 4 rfl rfl rfl rfl rfl rfl ?_
  refine aw_step (f1 := (5, [some (.ref 21), some (.int t), some (.int pr)], [(.int t), (.ref 22)])) (w1 := w) rfl rfl ?_
  refine aw_step (f1 := (6, [some (.ref 21), some (.int t), some (.int pr)], [(.ref 21), (.int t), (.ref 22)])) (w1 := w) rfl rfl ?_
  refine s_gr 22 J 9 rfl rfl rfl rfl rfl rfl ?_
  refine aw_step (f1 := (10, [some (.ref 21), some (.int t), some (.int pr)], [(.int t), (.ref 22), (.int t), (.ref 22)])) (w1 := w) rfl rfl ?_
  refine s_ia J 11 rfl rfl rfl rfl (by omega) (by omega) fun x1 x1a x1b x1f => ?_
  have x1v : x1.toInt = rI w 22 t.toInt.toNat := by rw [← rI_of x1f]
  refine aw_step (f1 := (12, [some (.ref 21), some (.int t), some (.int pr)], [(.int pr), (.int x1), (.int t), (.ref 22)])) (w1 := w) rfl rfl ?_
  --
  refine s_i (pc1 := 15) (ls1 := [some (.ref 21), some (.int t), some (.int pr)]) (st1 := [(.int t), (.ref 22)]) rfl rfl fun x2 e3 => ?_
  have e3t : x2.toInt = if pr.toInt < x1.toInt then pr.toInt else x1.toInt := by rw [e3]; exact n_mn
  --
  refine s_is J 16 rfl rfl rfl rfl (by omega) (by omega) (by omega) (by omega) fun w4 J5 w4e => ?_
  have w4f := rI_st J.1 (p := 22) (j := t.toInt.toNat) rfl (by omega) w4e
  refine aw_ret (v := none) rfl rfl ?_
  refine ⟨rfl, J5, w4f.1, ?_, w4f.2.2⟩
  rw [w4f.2.1, e3t, x1v]
theorem e_price {d : Nat} {w : am_W} (a b c e : Int32) (I : ab_inv ab_TT ab_sets w) : aw none (d + 1) 49 (fun r w1 => r = none ∧ ab_J ab_TT ab_sets ab_WR w w1 ∧ only [21] w w1 ∧ fI w1 21 3 = a.toInt ∧ fI w1 21 4 = b.toInt ∧ fI w1 21 5 = c.toInt ∧ fI w1 21 6 = e.toInt) (0, am_entry 49 [.ref 21, .int a, .int b, .int c, .int e], []) w := by
  have J : ab_J ab_TT ab_sets ab_WR w w := ⟨I, ab_fr.rf⟩
  have za := ab_any32 a
  unfold ab_lo32 ab_hi32 at za
  have zb := ab_any32 b
  unfold ab_lo32 ab_hi32 at zb
  have zc := ab_any32 c
  unfold ab_lo32 ab_hi32 at zc
  have ze := ab_any32 e
  unfold ab_lo32 ab_hi32 at ze
  show aw none (d + 1) 49 _ (0, [some (.ref 21), some (.int a), some (.int b), some (.int c), some (.int e)], []) w
  refine aw_step (f1 := (1, [some (.ref 21), some (.int a), some (.int b), some (.int c), some (.int e)], [(.ref 21)])) (w1 := w) rfl rfl ?_
  refine aw_step (f1 := (2, [some (.ref 21), some (.int a), some (.int b), some (.int c), some (.int e)], [(.int a), (.ref 21)])) (w1 := w) rfl rfl ?_
  refine s_pi J 5 rfl rfl rfl rfl rfl rfl rfl (by omega) (by omega) fun w1 J2 w1e => ?_
  have w1f := fv_st J.1 (p := 21) (kf := 3) rfl (by decide) w1e
  refine aw_step (f1 := (6, [some (.ref 21), some (.int a), some (.int b), some (.int c), some (.int e)], [(.ref 21)])) (w1 := w1) rfl rfl ?_
  refine aw_step (f1 := (7, [some (.ref 21), some (.int a), some (.int b), some (.int c), some (.int e)], [(.int b), (.ref 21)])) (w1 := w1) rfl rfl ?_
  refine s_pi J2 10 rfl rfl rfl rfl rfl rfl rfl (by omega) (by omega) fun w3 J4 w3e => ?_
  have w3f := fv_st J2.1 (p := 21) (kf := 4) rfl (by decide) w3e
  refine aw_step (f1 := (11, [some (.ref 21), some (.int a), some (.int b), some (.int c), some (.int e)], [(.ref 21)])) (w1 := w3) rfl rfl ?_
  refine aw_step (f1 := (12, [some (.ref 21), some (.int a), some (.int b), some (.int c), some (.int e)], [(.int c), (.ref 21)])) (w1 := w3) rfl rfl ?_
  refine s_pi J4 15 rfl rfl rfl rfl rfl rfl rfl (by omega) (by omega) fun w5 J6 w5e => ?_
  have w5f := fv_st J4.1 (p := 21) (kf := 5) rfl (by decide) w5e
  refine aw_step (f1 := (16, [some (.ref 21), some (.int a), some (.int b), some (.int c), some (.int e)], [(.ref 21)])) (w1 := w5) rfl rfl ?_
  refine aw_step (f1 := (18, [some (.ref 21), some (.int a), some (.int b), some (.int c), some (.int e)], [(.int e), (.ref 21)])) (w1 := w5) rfl rfl ?_
  refine s_pi J6 21 rfl rfl rfl rfl rfl rfl rfl (by omega) (by omega) fun w7 J8 w7e => ?_
  have w7f := fv_st J6.1 (p := 21) (kf := 6) rfl (by decide) w7e
  refine aw_ret (v := none) rfl rfl ?_
  refine ⟨rfl, J8, ((w1f.1.trans w3f.1).trans w5f.1).trans w7f.1, ?_, ?_, ?_, ?_⟩
  · rw [fI_eq (w7f.2.2 3 (by decide)), fI_eq (w5f.2.2 3 (by decide)), fI_eq (w3f.2.2 3 (by decide)), fI_of w1f.2.1]
  · rw [fI_eq (w7f.2.2 4 (by decide)), fI_eq (w5f.2.2 4 (by decide)), fI_of w3f.2.1]
  · rw [fI_eq (w7f.2.2 5 (by decide)), fI_of w5f.2.1]
  · rw [fI_of w7f.2.1]
theorem e_wearT {d : Nat} {w : am_W} (a b : Int32) (I : ab_inv ab_TT ab_sets w) : aw none (d + 1) 50 (fun r w1 => r = none ∧ ab_J ab_TT ab_sets ab_WR w w1 ∧ only [24] w w1 ∧ rI w1 24 0 = a.toInt ∧ rI w1 24 1 = b.toInt) (0, am_entry 50 [.ref 21, .int a, .int b], []) w := by
  have J : ab_J ab_TT ab_sets ab_WR w w := ⟨I, ab_fr.rf⟩
  have za := ab_any32 a
  unfold ab_lo32 ab_hi32 at za
  have zb := ab_any32 b
  unfold ab_lo32 ab_hi32 at zb
  show aw none (d + 1) 50 _ (0, [some (.ref 21), some (.int a), some (.int b)], []) w
  refine aw_step (f1 := (1, [some (.ref 21), some (.int a), some (.int b)], [(.ref 21)])) (w1 := w) rfl rfl ?_
  refine s_gr 24 J 4 rfl rfl rfl rfl rfl rfl ?_
  refine s_i (pc1 := 5) (ls1 := [some (.ref 21), some (.int a), some (.int b)]) (st1 := [(.ref 24)]) rfl rfl fun x1 e2 => ?_
  have e2t : x1.toInt = 0 := by rw [e2]; rfl
  refine aw_step (f1 := (6, [some (.ref 21), some (.int a), some (.int b)], [(.int a), (.int x1), (.ref 24)])) (w1 := w) rfl rfl ?_
  refine s_is J 7 rfl rfl rfl rfl (by omega) (by omega) (by omega) (by omega) fun w3 J4 w3e => ?_
  have w3f := rI_st J.1 (p := 24) (j := x1.toInt.toNat) rfl (by omega) w3e
  refine aw_step (f1 := (8, [some (.ref 21), some (.int a), some (.int b)], [(.ref 21)])) (w1 := w3) rfl rfl ?_
  refine s_gr 24 J4 11 rfl rfl rfl rfl rfl rfl ?_
  refine s_i (pc1 := 12) (ls1 := [some (.ref 21), some (.int a), some (.int b)]) (st1 := [(.ref 24)]) rfl rfl fun x5 e6 => ?_
  have e6t : x5.toInt = 1 := by rw [e6]; rfl
  refine aw_step (f1 := (13, [some (.ref 21), some (.int a), some (.int b)], [(.int b), (.int x5), (.ref 24)])) (w1 := w3) rfl rfl ?_
  refine s_is J4 14 rfl rfl rfl rfl (by omega) (by omega) (by omega) (by omega) fun w7 J8 w7e => ?_
  have w7f := rI_st J4.1 (p := 24) (j := x5.toInt.toNat) rfl (by omega) w7e
  refine aw_ret (v := none) rfl rfl ?_
  have i0 : x1.toInt.toNat = 0 := by omega
  have i1 : x5.toInt.toNat = 1 := by omega
  have g1 := w3f
  have g2 := w7f
  rw [i0] at g1
  rw [i1] at g2
  exact ⟨rfl, J8, g1.1.trans g2.1, by rw [g2.2.2 0 (by decide)]; exact g1.2.1, g2.2.1⟩
/-- the same, as far as the cells below i -/
noncomputable def EI (V : Nat → Int) (ps oh st L : Int) (sd c : Nat) (i : Int) (b : Bool) (t : Nat) (e : Int) : Prop := (∃ d : Nat, ((d : Int) < i ∨ (b = true ∧ (d : Int) = i)) ∧ eV V L c d ∧ t = 36 * sd + d ∧ e = ps + (if V (40 + d) = 94 then oh else 0)) ∨ (0 < st ∧ ∃ d : Nat, (d : Int) < i ∧ eV V 1 c d ∧ t = 36 * sd + d ∧ e = st)
theorem e_goL {d : Nat} {w00 : am_W} {V : Nat → Int} {ps oh st ch L : Int} {r0 : Nat → Int} (R00 : RCs w00 3 V) (ok : okT ps oh st ch) (hk3 : fI w00 21 3 = ps) (hk4 : fI w00 21 4 = oh) (hk5 : fI w00 21 5 = st) (hk6 : fI w00 21 6 = ch) (p sd ba c : Int32) (ys yt : Int64) (hsd : 0 ≤ sd.toInt ∧ sd.toInt ≤ 1) (hba : ba.toInt = 36 * sd.toInt) (hp : p.toInt = ba.toInt + c.toInt) (hc : 0 ≤ c.toInt ∧ c.toInt < szV V) (hb : ∀ t, t < 72 → 0 ≤ r0 t ∧ r0 t ≤ 1000000) (ys1 : ∀ j, bt (n64 ys) j = 1 ↔ eV V L c.toInt.toNat j) (yt1 : ∀ j, bt (n64 yt) j = 1 ↔ 0 < st ∧ eV V 1 c.toInt.toNat j) (I0 : ab_inv ab_TT ab_sets w00) : ∀ (m : Nat) (w : am_W) (i : Int32) (o11 : Option Value), (szV V - i.toInt).toNat < m → 0 ≤ i.toInt → i.toInt ≤ szV V → ab_J ab_TT ab_sets ab_WR w00 w → only [22] w00 w → ofI (EO V ps oh st ch L sd.toInt.toNat c.toInt.toNat) (EI V ps oh st L sd.toInt.toNat c.toInt.toNat i.toInt false) p.toInt.toNat r0 (rI w 22) → aw none (d + 2) 53 (fun r w1 => r = none ∧ ab_J ab_TT ab_sets ab_WR w00 w1 ∧ only [22] w00 w1 ∧ ofI (EO V ps oh st ch L sd.toInt.toNat c.toInt.toNat) (EO V ps oh st ch L sd.toInt.toNat c.toInt.toNat) p.toInt.toNat r0 (rI w1 22)) (61, [some (.ref 21), some (.ref 3), some (.int p), some (.int sd), some (.int ba), some (.int c), some (.long ys), none, some (.long yt), none, some (.int i), o11], []) w := by
  have szc := szC_in I0
  have hsz0 := R00.sz
  unfold okT at ok
  have hbp := hb p.toInt.toNat (by omega)
  intro m
  induction m with
  | zero => intro w i o11 p; omega
  | succ m ih =>
    intro w i o11 p1 p2 p3 J O F
    have R := R00.of O (by decide)
    have hsz := R.sz
    have f1 := F.1
    have k3 : fI w 21 3 = ps := by rw [O.fIe (by decide)]; exact hk3
    have k4 : fI w 21 4 = oh := by rw [O.fIe (by decide)]; exact hk4
    have k5 : fI w 21 5 = st := by rw [O.fIe (by decide)]; exact hk5
    have k6 : fI w 21 6 = ch := by rw [O.fIe (by decide)]; exact hk6
    have sg : i.toInt < szV V → rI w 4 i.toInt.toNat = V (40 + i.toInt.toNat) := fun q => (R.2.1 i.toInt.toNat (by omega)).1
    refine aw_step (f1 := (63, [some (.ref 21), some (.ref 3), some (.int p), some (.int sd), some (.int ba), some (.int c), some (.long ys), none, some (.long yt), none, some (.int i), o11], [(.int i)])) (w1 := w) rfl rfl ?_
    refine aw_step (f1 := (64, [some (.ref 21), some (.ref 3), some (.int p), some (.int sd), some (.int ba), some (.int c), some (.long ys), none, some (.long yt), none, some (.int i), o11], [(.ref 3), (.int i)])) (w1 := w) rfl rfl ?_
    refine s_cv (z := 38) (p := 3) (as := []) (st1 := [(.int i)]) J 67 rfl rfl rfl rfl rfl rfl rfl rfl (Nat.le_of_ble_eq_true rfl) (Nat.le_of_ble_eq_true rfl) (q_size J.1) ?_
    rintro _ _ ⟨rfl, x1, rfl, x1t⟩
    refine ⟨rfl, ?_⟩
    show aw none _ 53 _ (67, [some (.ref 21), some (.ref 3), some (.int p), some (.int sd), some (.int ba), some (.int c), some (.long ys), none, some (.long yt), none, some (.int i), o11], [(.int x1), (.int i)]) w
    refine s_ic 161 70 rfl rfl rfl (fun (h2 : x1.toInt ≤ i.toInt) => ?_) (fun (h2 : ¬ (x1.toInt ≤ i.toInt)) => ?_)
    · --
      refine aw_step (f1 := (162, [some (.ref 21), some (.ref 3), some (.int p), some (.int sd), some (.int ba), some (.int c), some (.long ys), none, some (.long yt), none, some (.int i), o11], [(.ref 21)])) (w1 := w) rfl rfl ?_
      refine s_gi J 165 rfl rfl rfl rfl rfl rfl fun x3 x3a x3b x3f => ?_
      have x3v : x3.toInt = fI w 21 6 := by rw [← fI_of x3f]
      refine s_if 204 168 rfl rfl rfl (fun (h4 : x3.toInt ≤ 0) => ?_) (fun (h4 : ¬ (x3.toInt ≤ 0)) => ?_)
      · --
        have ec : ¬ (0 < ch ∧ chB V c.toInt.toNat = 1) := by omega
        refine aw_ret (v := none) rfl rfl ?_
        have FE : ofI (EO V ps oh st ch L sd.toInt.toNat c.toInt.toNat) (EO V ps oh st ch L sd.toInt.toNat c.toInt.toNat) p.toInt.toNat r0 (rI w 22) := by
          refine F.no ?_
          rintro t e (⟨d, d2, d3, d4⟩ | ⟨d0, d, d2, d3, d4⟩ | ⟨d0, d1, d3, d4⟩)
          · exact (Or.inl ⟨d, Or.inl (by have := d2.1.1; omega), d2, d3, d4⟩)
          · exact (Or.inr ⟨d0, d, by have := d2.1.1; omega, d2, d3, d4⟩)
          · exact absurd ⟨d0, d1⟩ ec
        exact ⟨rfl, J, O, FE⟩
      · --
        --
        refine aw_step (f1 := (169, [some (.ref 21), some (.ref 3), some (.int p), some (.int sd), some (.int ba), some (.int c), some (.long ys), none, some (.long yt), none, some (.int i), o11], [(.ref 3)])) (w1 := w) rfl rfl ?_
        refine s_gl J 172 rfl rfl rfl rfl rfl rfl fun y5 y5a y5b y5f => ?_
        --
        refine aw_step (f1 := (174, [some (.ref 21), some (.ref 3), some (.int p), some (.int sd), some (.int ba), some (.int c), some (.long ys), none, some (.long yt), none, some (.int i), o11], [(.int c), (.long y5)])) (w1 := w) rfl rfl ?_
        refine s_cs (z := 105) (as := [(.long y5), (.int c)]) (st1 := []) 177 rfl rfl rfl rfl rfl rfl (Nat.le_of_ble_eq_true rfl) (Nat.le_of_ble_eq_true rfl) (Nat.le_of_ble_eq_true rfl) (q_hasC y5 c (by omega) (by omega)) ?_
        rintro _ _ ⟨rfl, x6, rfl, x6t⟩
        refine ⟨rfl, ?_⟩
        show aw none _ 53 _ (177, [some (.ref 21), some (.ref 3), some (.int p), some (.int sd), some (.int ba), some (.int c), some (.long ys), none, some (.long yt), none, some (.int i), o11], [(.int x6)]) w
        have x6l := bt_le (n64 y5) c.toInt.toNat
        have hcb : chB V c.toInt.toNat = bt (n64 y5) c.toInt.toNat := by unfold chB; rw [show Int64.ofInt (V 3) = y5 from by rw [← R.f6, fLi_of y5f]; exact Int64.ofInt_toInt _]; rfl
        refine s_if 204 180 rfl rfl rfl (fun (h7 : x6.toInt = 0) => ?_) (fun (h7 : ¬ (x6.toInt = 0)) => ?_)
        · --
          have ec : ¬ (0 < ch ∧ chB V c.toInt.toNat = 1) := by omega
          refine aw_ret (v := none) rfl rfl ?_
          have FE : ofI (EO V ps oh st ch L sd.toInt.toNat c.toInt.toNat) (EO V ps oh st ch L sd.toInt.toNat c.toInt.toNat) p.toInt.toNat r0 (rI w 22) := by
            refine F.no ?_
            rintro t e (⟨d, d2, d3, d4⟩ | ⟨d0, d, d2, d3, d4⟩ | ⟨d0, d1, d3, d4⟩)
            · exact (Or.inl ⟨d, Or.inl (by have := d2.1.1; omega), d2, d3, d4⟩)
            · exact (Or.inr ⟨d0, d, by have := d2.1.1; omega, d2, d3, d4⟩)
            · exact absurd ⟨d0, d1⟩ ec
          exact ⟨rfl, J, O, FE⟩
        · --
          have ec : chB V c.toInt.toNat = 1 := by omega
          refine aw_step (f1 := (181, [some (.ref 21), some (.ref 3), some (.int p), some (.int sd), some (.int ba), some (.int c), some (.long ys), none, some (.long yt), none, some (.int i), o11], [(.ref 21)])) (w1 := w) rfl rfl ?_
          refine s_i (pc1 := 182) (ls1 := [some (.ref 21), some (.ref 3), some (.int p), some (.int sd), some (.int ba), some (.int c), some (.long ys), none, some (.long yt), none, some (.int i), o11]) (st1 := [(.ref 21)]) rfl rfl fun x8 e9 => ?_
          have e9t : x8.toInt = 1 := by rw [e9]; rfl
          refine aw_step (f1 := (183, [some (.ref 21), some (.ref 3), some (.int p), some (.int sd), some (.int ba), some (.int c), some (.long ys), none, some (.long yt), none, some (.int i), o11], [(.int sd), (.int x8), (.ref 21)])) (w1 := w) rfl rfl ?_
          refine s_i (pc1 := 184) (ls1 := [some (.ref 21), some (.ref 3), some (.int p), some (.int sd), some (.int ba), some (.int c), some (.long ys), none, some (.long yt), none, some (.int i), o11]) (st1 := [(.ref 21)]) rfl rfl fun x10 e11 => ?_
          have e11 : x10 = x8 - sd := e11
          have e11t : x10.toInt = x8.toInt - sd.toInt := by rw [e11]; exact n_sub (by omega) (by omega)
          refine s_i (pc1 := 186) (ls1 := [some (.ref 21), some (.ref 3), some (.int p), some (.int sd), some (.int ba), some (.int c), some (.long ys), none, some (.long yt), none, some (.int i), o11]) (st1 := [(.int x10), (.ref 21)]) rfl rfl fun x12 e13 => ?_
          have e13t : x12.toInt = 36 := by rw [e13]; rfl
          refine s_i (pc1 := 187) (ls1 := [some (.ref 21), some (.ref 3), some (.int p), some (.int sd), some (.int ba), some (.int c), some (.long ys), none, some (.long yt), none, some (.int i), o11]) (st1 := [(.ref 21)]) rfl rfl fun x14 e15 => ?_
          have e15 : x14 = x10 * x12 := e15
          have e15t : x14.toInt = x10.toInt * 36 := by rw [e15, n_mul (by rw [e13t]; omega) (by rw [e13t]; omega), e13t]
          refine aw_step (f1 := (189, [some (.ref 21), some (.ref 3), some (.int p), some (.int sd), some (.int ba), some (.int c), some (.long ys), none, some (.long yt), none, some (.int i), o11], [(.int c), (.int x14), (.ref 21)])) (w1 := w) rfl rfl ?_
          refine s_i (pc1 := 190) (ls1 := [some (.ref 21), some (.ref 3), some (.int p), some (.int sd), some (.int ba), some (.int c), some (.long ys), none, some (.long yt), none, some (.int i), o11]) (st1 := [(.ref 21)]) rfl rfl fun x16 e17 => ?_
          have e17 : x16 = x14 + c := e17
          have e17t : x16.toInt = x14.toInt + c.toInt := by rw [e17]; exact n_add (by omega) (by omega)
          refine aw_step (f1 := (191, [some (.ref 21), some (.ref 3), some (.int p), some (.int sd), some (.int ba), some (.int c), some (.long ys), none, some (.long yt), none, some (.int i), o11], [(.ref 21), (.int x16), (.ref 21)])) (w1 := w) rfl rfl ?_
          refine s_gr 22 J 194 rfl rfl rfl rfl rfl rfl ?_
          refine aw_step (f1 := (195, [some (.ref 21), some (.ref 3), some (.int p), some (.int sd), some (.int ba), some (.int c), some (.long ys), none, some (.long yt), none, some (.int i), o11], [(.int p), (.ref 22), (.int x16), (.ref 21)])) (w1 := w) rfl rfl ?_
          refine s_ia J 196 rfl rfl rfl rfl (by omega) (by omega) fun x18 x18a x18b x18f => ?_
          have x18v : x18.toInt = rI w 22 p.toInt.toNat := by rw [← rI_of x18f]
          refine aw_step (f1 := (197, [some (.ref 21), some (.ref 3), some (.int p), some (.int sd), some (.int ba), some (.int c), some (.long ys), none, some (.long yt), none, some (.int i), o11], [(.ref 21), (.int x18), (.int x16), (.ref 21)])) (w1 := w) rfl rfl ?_
          refine s_gi J 200 rfl rfl rfl rfl rfl rfl fun x19 x19a x19b x19f => ?_
          have x19v : x19.toInt = fI w 21 6 := by rw [← fI_of x19f]
          refine s_i (pc1 := 201) (ls1 := [some (.ref 21), some (.ref 3), some (.int p), some (.int sd), some (.int ba), some (.int c), some (.long ys), none, some (.long yt), none, some (.int i), o11]) (st1 := [(.int x16), (.ref 21)]) rfl rfl fun x20 e21 => ?_
          have e21 : x20 = x18 + x19 := e21
          have e21t : x20.toInt = x18.toInt + x19.toInt := by rw [e21]; exact n_add (by omega) (by omega)
          refine s_cv (z := 54) (p := 21) (as := [(.int x16), (.int x20)]) (st1 := []) J 204 rfl rfl rfl rfl rfl rfl rfl rfl (Nat.le_of_ble_eq_true rfl) (Nat.le_of_ble_eq_true rfl) (e_offer x16 x20 ⟨by omega, by omega⟩ J.1) ?_
          rintro _ w22 ⟨rfl, J23c, w22o, w22m, w22n⟩
          have J23 := J.trans J23c
          refine ⟨am_len2 J J23c, ?_⟩
          show aw none _ 53 _ (204, [some (.ref 21), some (.ref 3), some (.int p), some (.int sd), some (.int ba), some (.int c), some (.long ys), none, some (.long yt), none, some (.int i), o11], []) w22
          --
          refine aw_ret (v := none) rfl rfl ?_
          have FE : ofI (EO V ps oh st ch L sd.toInt.toNat c.toInt.toNat) (EO V ps oh st ch L sd.toInt.toNat c.toInt.toNat) p.toInt.toNat r0 (rI w22 22) := by
            refine F.go (t0 := 36 * (1 - sd.toInt.toNat) + c.toInt.toNat) (e0 := ch) (by omega) (Or.inr (Or.inr ⟨by omega, ec, rfl, rfl⟩)) ?_ ?_ ?_
            · have m := w22m
              rw [show x16.toInt.toNat = 36 * (1 - sd.toInt.toNat) + c.toInt.toNat by omega, show x20.toInt = r0 p.toInt.toNat + ch from by omega] at m
              exact m
            · intro j hj
              exact w22n j (by omega)
            · rintro t e (⟨d, d2, d3, d4⟩ | ⟨d0, d, d2, d3, d4⟩ | ⟨d0, d1, d3, d4⟩)
              · exact Or.inl (Or.inl ⟨d, Or.inl (by have := d2.1.1; omega), d2, d3, d4⟩)
              · exact Or.inl (Or.inr ⟨d0, d, by have := d2.1.1; omega, d2, d3, d4⟩)
              · exact Or.inr ⟨d3, d4⟩
          exact ⟨rfl, J23, O.trans w22o, FE⟩
    · --
      refine aw_step (f1 := (72, [some (.ref 21), some (.ref 3), some (.int p), some (.int sd), some (.int ba), some (.int c), some (.long ys), none, some (.long yt), none, some (.int i), o11], [(.long ys)])) (w1 := w) rfl rfl ?_
      refine aw_step (f1 := (74, [some (.ref 21), some (.ref 3), some (.int p), some (.int sd), some (.int ba), some (.int c), some (.long ys), none, some (.long yt), none, some (.int i), o11], [(.int i), (.long ys)])) (w1 := w) rfl rfl ?_
      refine s_cs (z := 105) (as := [(.long ys), (.int i)]) (st1 := []) 77 rfl rfl rfl rfl rfl rfl (Nat.le_of_ble_eq_true rfl) (Nat.le_of_ble_eq_true rfl) (Nat.le_of_ble_eq_true rfl) (q_hasC ys i (by omega) (by omega)) ?_
      rintro _ _ ⟨rfl, x24, rfl, x24t⟩
      refine ⟨rfl, ?_⟩
      show aw none _ 53 _ (77, [some (.ref 21), some (.ref 3), some (.int p), some (.int sd), some (.int ba), some (.int c), some (.long ys), none, some (.long yt), none, some (.int i), o11], [(.int x24)]) w
      have x24l := bt_le (n64 ys) i.toInt.toNat
      refine s_if 125 80 rfl rfl rfl (fun (h25 : x24.toInt = 0) => ?_) (fun (h25 : ¬ (x24.toInt = 0)) => ?_)
      · --
        have es : ¬ eV V L c.toInt.toNat i.toInt.toNat := fun q => by have := (ys1 i.toInt.toNat).mpr q; omega
        have G1 : ofI (EO V ps oh st ch L sd.toInt.toNat c.toInt.toNat) (EI V ps oh st L sd.toInt.toNat c.toInt.toNat i.toInt true) p.toInt.toNat r0 (rI w 22) := by
          refine F.no ?_
          rintro t e (⟨d, d1, d2, d3, d4⟩ | ⟨d0, d, d1, d2, d3, d4⟩)
          · rcases d1 with d1 | ⟨-, d1⟩
            · exact Or.inl ⟨d, Or.inl d1, d2, d3, d4⟩
            · have : d = i.toInt.toNat := by omega
              subst this
              exact absurd d2 es
          · exact Or.inr ⟨d0, d, d1, d2, d3, d4⟩
        have g1 := G1.1
        refine aw_step (f1 := (127, [some (.ref 21), some (.ref 3), some (.int p), some (.int sd), some (.int ba), some (.int c), some (.long ys), none, some (.long yt), none, some (.int i), o11], [(.long yt)])) (w1 := w) rfl rfl ?_
        refine aw_step (f1 := (129, [some (.ref 21), some (.ref 3), some (.int p), some (.int sd), some (.int ba), some (.int c), some (.long ys), none, some (.long yt), none, some (.int i), o11], [(.int i), (.long yt)])) (w1 := w) rfl rfl ?_
        refine s_cs (z := 105) (as := [(.long yt), (.int i)]) (st1 := []) 132 rfl rfl rfl rfl rfl rfl (Nat.le_of_ble_eq_true rfl) (Nat.le_of_ble_eq_true rfl) (Nat.le_of_ble_eq_true rfl) (q_hasC yt i (by omega) (by omega)) ?_
        rintro _ _ ⟨rfl, x26, rfl, x26t⟩
        refine ⟨rfl, ?_⟩
        show aw none _ 53 _ (132, [some (.ref 21), some (.ref 3), some (.int p), some (.int sd), some (.int ba), some (.int c), some (.long ys), none, some (.long yt), none, some (.int i), o11], [(.int x26)]) w
        have x26l := bt_le (n64 yt) i.toInt.toNat
        refine s_if 155 135 rfl rfl rfl (fun (h27 : x26.toInt = 0) => ?_) (fun (h27 : ¬ (x26.toInt = 0)) => ?_)
        · --
          have et : ¬ (0 < st ∧ eV V 1 c.toInt.toNat i.toInt.toNat) := fun q => by have := (yt1 i.toInt.toNat).mpr q; omega
          refine aw_step (f1 := (158, [some (.ref 21), some (.ref 3), some (.int p), some (.int sd), some (.int ba), some (.int c), some (.long ys), none, some (.long yt), none, some (.int (i + Int32.ofInt 1)), o11], [])) (w1 := w) rfl rfl ?_
          obtain ⟨x28, x28e⟩ : ∃ z, z = (i + Int32.ofInt 1) := ⟨_, rfl⟩
          have x28t : x28.toInt = i.toInt + (1) := by rw [x28e]; exact n_add (y := Int32.ofInt (1)) (by show _ ≤ _ + (1 : Int); omega) (by show _ + (1 : Int) ≤ _; omega)
          rw [← x28e]
          refine aw_step (f1 := (61, [some (.ref 21), some (.ref 3), some (.int p), some (.int sd), some (.int ba), some (.int c), some (.long ys), none, some (.long yt), none, some (.int x28), o11], [])) (w1 := w) rfl rfl ?_
          have G2 : ofI (EO V ps oh st ch L sd.toInt.toNat c.toInt.toNat) (EI V ps oh st L sd.toInt.toNat c.toInt.toNat x28.toInt false) p.toInt.toNat r0 (rI w 22) := by
            refine G1.no ?_
            rintro t e (⟨d, d1, d2, d3, d4⟩ | ⟨d0, d, d1, d2, d3, d4⟩)
            · rcases d1 with d1 | ⟨d1, -⟩
              · exact Or.inl ⟨d, EIb (by omega), d2, d3, d4⟩
              · cases d1
            · by_cases u : d = i.toInt.toNat
              · subst u; exact absurd ⟨d0, d2⟩ et
              · exact Or.inr ⟨d0, d, by omega, d2, d3, d4⟩
          exact ih w x28 _ (by omega) (by omega) (by omega) J O G2
        · --
          have et0 := (yt1 i.toInt.toNat).mp (by omega)
          have et : eV V 1 c.toInt.toNat i.toInt.toNat := et0.2
          have st0 := et0.1
          refine aw_step (f1 := (136, [some (.ref 21), some (.ref 3), some (.int p), some (.int sd), some (.int ba), some (.int c), some (.long ys), none, some (.long yt), none, some (.int i), o11], [(.ref 21)])) (w1 := w) rfl rfl ?_
          refine aw_step (f1 := (138, [some (.ref 21), some (.ref 3), some (.int p), some (.int sd), some (.int ba), some (.int c), some (.long ys), none, some (.long yt), none, some (.int i), o11], [(.int ba), (.ref 21)])) (w1 := w) rfl rfl ?_
          refine aw_step (f1 := (140, [some (.ref 21), some (.ref 3), some (.int p), some (.int sd), some (.int ba), some (.int c), some (.long ys), none, some (.long yt), none, some (.int i), o11], [(.int i), (.int ba), (.ref 21)])) (w1 := w) rfl rfl ?_
          refine s_i (pc1 := 141) (ls1 := [some (.ref 21), some (.ref 3), some (.int p), some (.int sd), some (.int ba), some (.int c), some (.long ys), none, some (.long yt), none, some (.int i), o11]) (st1 := [(.ref 21)]) rfl rfl fun x29 e30 => ?_
          have e30 : x29 = ba + i := e30
          have e30t : x29.toInt = ba.toInt + i.toInt := by rw [e30]; exact n_add (by omega) (by omega)
          refine aw_step (f1 := (142, [some (.ref 21), some (.ref 3), some (.int p), some (.int sd), some (.int ba), some (.int c), some (.long ys), none, some (.long yt), none, some (.int i), o11], [(.ref 21), (.int x29), (.ref 21)])) (w1 := w) rfl rfl ?_
          refine s_gr 22 J 145 rfl rfl rfl rfl rfl rfl ?_
          refine aw_step (f1 := (146, [some (.ref 21), some (.ref 3), some (.int p), some (.int sd), some (.int ba), some (.int c), some (.long ys), none, some (.long yt), none, some (.int i), o11], [(.int p), (.ref 22), (.int x29), (.ref 21)])) (w1 := w) rfl rfl ?_
          refine s_ia J 147 rfl rfl rfl rfl (by omega) (by omega) fun x31 x31a x31b x31f => ?_
          have x31v : x31.toInt = rI w 22 p.toInt.toNat := by rw [← rI_of x31f]
          have hq : x31.toInt = rI w 22 p.toInt.toNat := (rI_of x31f).symm
          refine aw_step (f1 := (148, [some (.ref 21), some (.ref 3), some (.int p), some (.int sd), some (.int ba), some (.int c), some (.long ys), none, some (.long yt), none, some (.int i), o11], [(.ref 21), (.int x31), (.int x29), (.ref 21)])) (w1 := w) rfl rfl ?_
          refine s_gi J 151 rfl rfl rfl rfl rfl rfl fun x32 x32a x32b x32f => ?_
          have x32v : x32.toInt = fI w 21 5 := by rw [← fI_of x32f]
          refine s_i (pc1 := 152) (ls1 := [some (.ref 21), some (.ref 3), some (.int p), some (.int sd), some (.int ba), some (.int c), some (.long ys), none, some (.long yt), none, some (.int i), o11]) (st1 := [(.int x29), (.ref 21)]) rfl rfl fun x33 e34 => ?_
          have e34 : x33 = x31 + x32 := e34
          have e34t : x33.toInt = x31.toInt + x32.toInt := by rw [e34]; exact n_add (by omega) (by omega)
          refine s_cv (z := 54) (p := 21) (as := [(.int x29), (.int x33)]) (st1 := []) J 155 rfl rfl rfl rfl rfl rfl rfl rfl (Nat.le_of_ble_eq_true rfl) (Nat.le_of_ble_eq_true rfl) (e_offer x29 x33 ⟨by omega, by omega⟩ J.1) ?_
          rintro _ w35 ⟨rfl, J36c, w35o, w35m, w35n⟩
          have J36 := J.trans J36c
          refine ⟨am_len2 J J36c, ?_⟩
          show aw none _ 53 _ (155, [some (.ref 21), some (.ref 3), some (.int p), some (.int sd), some (.int ba), some (.int c), some (.long ys), none, some (.long yt), none, some (.int i), o11], []) w35
          --
          refine aw_step (f1 := (158, [some (.ref 21), some (.ref 3), some (.int p), some (.int sd), some (.int ba), some (.int c), some (.long ys), none, some (.long yt), none, some (.int (i + Int32.ofInt 1)), o11], [])) (w1 := w35) rfl rfl ?_
          obtain ⟨x37, x37e⟩ : ∃ z, z = (i + Int32.ofInt 1) := ⟨_, rfl⟩
          have x37t : x37.toInt = i.toInt + (1) := by rw [x37e]; exact n_add (y := Int32.ofInt (1)) (by show _ ≤ _ + (1 : Int); omega) (by show _ + (1 : Int) ≤ _; omega)
          rw [← x37e]
          refine aw_step (f1 := (61, [some (.ref 21), some (.ref 3), some (.int p), some (.int sd), some (.int ba), some (.int c), some (.long ys), none, some (.long yt), none, some (.int x37), o11], [])) (w1 := w35) rfl rfl ?_
          have G2 : ofI (EO V ps oh st ch L sd.toInt.toNat c.toInt.toNat) (EI V ps oh st L sd.toInt.toNat c.toInt.toNat x37.toInt false) p.toInt.toNat r0 (rI w35 22) := by
            refine G1.go (t0 := 36 * sd.toInt.toNat + i.toInt.toNat) (e0 := st) (by omega) (Or.inr (Or.inl ⟨by omega, i.toInt.toNat, et, rfl, rfl⟩)) ?_ ?_ ?_
            · have m := w35m
              rw [show x29.toInt.toNat = 36 * sd.toInt.toNat + i.toInt.toNat by omega, show x33.toInt = r0 p.toInt.toNat + st from by omega] at m
              exact m
            · intro j hj
              exact w35n j (by omega)
            · rintro t e (⟨d, d1, d2, d3, d4⟩ | ⟨d0, d, d1, d2, d3, d4⟩)
              · rcases d1 with d1 | ⟨d1, -⟩
                · exact Or.inl (Or.inl ⟨d, EIb (by omega), d2, d3, d4⟩)
                · cases d1
              · by_cases u : d = i.toInt.toNat
                · subst u; exact Or.inr ⟨d3, d4⟩
                · exact Or.inl (Or.inr ⟨d0, d, by omega, d2, d3, d4⟩)
          exact ih w35 x37 _ (by omega) (by omega) (by omega) J36 (O.trans w35o) G2
      · --
        have es : eV V L c.toInt.toNat i.toInt.toNat := (ys1 i.toInt.toNat).mp (by omega)
        refine aw_step (f1 := (81, [some (.ref 21), some (.ref 3), some (.int p), some (.int sd), some (.int ba), some (.int c), some (.long ys), none, some (.long yt), none, some (.int i), o11], [(.ref 3)])) (w1 := w) rfl rfl ?_
        refine s_gr 4 J 84 rfl rfl rfl rfl rfl rfl ?_
        refine aw_step (f1 := (86, [some (.ref 21), some (.ref 3), some (.int p), some (.int sd), some (.int ba), some (.int c), some (.long ys), none, some (.long yt), none, some (.int i), o11], [(.int i), (.ref 4)])) (w1 := w) rfl rfl ?_
        refine s_ia J 87 rfl rfl rfl rfl (by omega) (by omega) fun x38 x38a x38b x38f => ?_
        have x38v : x38.toInt = rI w 4 i.toInt.toNat := by rw [← rI_of x38f]
        refine s_i (pc1 := 89) (ls1 := [some (.ref 21), some (.ref 3), some (.int p), some (.int sd), some (.int ba), some (.int c), some (.long ys), none, some (.long yt), none, some (.int i), o11]) (st1 := [(.int x38)]) rfl rfl fun x39 e40 => ?_
        have e40t : x39.toInt = 94 := by rw [e40]; rfl
        refine s_ic 99 92 rfl rfl rfl (fun (h41 : ¬ x38.toInt = x39.toInt) => ?_) (fun (h41 : ¬ (¬ x38.toInt = x39.toInt)) => ?_)
        · --
          --
          refine s_i (pc1 := 100) (ls1 := [some (.ref 21), some (.ref 3), some (.int p), some (.int sd), some (.int ba), some (.int c), some (.long ys), none, some (.long yt), none, some (.int i), o11]) (st1 := []) rfl rfl fun x42 e43 => ?_
          have e43t : x42.toInt = 0 := by rw [e43]; rfl
          refine aw_step (f1 := (102, [some (.ref 21), some (.ref 3), some (.int p), some (.int sd), some (.int ba), some (.int c), some (.long ys), none, some (.long yt), none, some (.int i), some (.int x42)], [])) (w1 := w) rfl rfl ?_
          refine aw_step (f1 := (103, [some (.ref 21), some (.ref 3), some (.int p), some (.int sd), some (.int ba), some (.int c), some (.long ys), none, some (.long yt), none, some (.int i), some (.int x42)], [(.ref 21)])) (w1 := w) rfl rfl ?_
          refine aw_step (f1 := (105, [some (.ref 21), some (.ref 3), some (.int p), some (.int sd), some (.int ba), some (.int c), some (.long ys), none, some (.long yt), none, some (.int i), some (.int x42)], [(.int ba), (.ref 21)])) (w1 := w) rfl rfl ?_
          refine aw_step (f1 := (107, [some (.ref 21), some (.ref 3), some (.int p), some (.int sd), some (.int ba), some (.int c), some (.long ys), none, some (.long yt), none, some (.int i), some (.int x42)], [(.int i), (.int ba), (.ref 21)])) (w1 := w) rfl rfl ?_
          refine s_i (pc1 := 108) (ls1 := [some (.ref 21), some (.ref 3), some (.int p), some (.int sd), some (.int ba), some (.int c), some (.long ys), none, some (.long yt), none, some (.int i), some (.int x42)]) (st1 := [(.ref 21)]) rfl rfl fun x44 e45 => ?_
          have e45 : x44 = ba + i := e45
          have e45t : x44.toInt = ba.toInt + i.toInt := by rw [e45]; exact n_add (by omega) (by omega)
          refine aw_step (f1 := (109, [some (.ref 21), some (.ref 3), some (.int p), some (.int sd), some (.int ba), some (.int c), some (.long ys), none, some (.long yt), none, some (.int i), some (.int x42)], [(.ref 21), (.int x44), (.ref 21)])) (w1 := w) rfl rfl ?_
          refine s_gr 22 J 112 rfl rfl rfl rfl rfl rfl ?_
          refine aw_step (f1 := (113, [some (.ref 21), some (.ref 3), some (.int p), some (.int sd), some (.int ba), some (.int c), some (.long ys), none, some (.long yt), none, some (.int i), some (.int x42)], [(.int p), (.ref 22), (.int x44), (.ref 21)])) (w1 := w) rfl rfl ?_
          refine s_ia J 114 rfl rfl rfl rfl (by omega) (by omega) fun x46 x46a x46b x46f => ?_
          have x46v : x46.toInt = rI w 22 p.toInt.toNat := by rw [← rI_of x46f]
          refine aw_step (f1 := (115, [some (.ref 21), some (.ref 3), some (.int p), some (.int sd), some (.int ba), some (.int c), some (.long ys), none, some (.long yt), none, some (.int i), some (.int x42)], [(.ref 21), (.int x46), (.int x44), (.ref 21)])) (w1 := w) rfl rfl ?_
          refine s_gi J 118 rfl rfl rfl rfl rfl rfl fun x47 x47a x47b x47f => ?_
          have x47v : x47.toInt = fI w 21 3 := by rw [← fI_of x47f]
          refine s_i (pc1 := 119) (ls1 := [some (.ref 21), some (.ref 3), some (.int p), some (.int sd), some (.int ba), some (.int c), some (.long ys), none, some (.long yt), none, some (.int i), some (.int x42)]) (st1 := [(.int x44), (.ref 21)]) rfl rfl fun x48 e49 => ?_
          have e49 : x48 = x46 + x47 := e49
          have e49t : x48.toInt = x46.toInt + x47.toInt := by rw [e49]; exact n_add (by omega) (by omega)
          refine aw_step (f1 := (121, [some (.ref 21), some (.ref 3), some (.int p), some (.int sd), some (.int ba), some (.int c), some (.long ys), none, some (.long yt), none, some (.int i), some (.int x42)], [(.int x42), (.int x48), (.int x44), (.ref 21)])) (w1 := w) rfl rfl ?_
          refine s_i (pc1 := 122) (ls1 := [some (.ref 21), some (.ref 3), some (.int p), some (.int sd), some (.int ba), some (.int c), some (.long ys), none, some (.long yt), none, some (.int i), some (.int x42)]) (st1 := [(.int x44), (.ref 21)]) rfl rfl fun x50 e51 => ?_
          have e51 : x50 = x48 + x42 := e51
          have e51t : x50.toInt = x48.toInt + x42.toInt := by rw [e51]; exact n_add (by omega) (by omega)
          refine s_cv (z := 54) (p := 21) (as := [(.int x44), (.int x50)]) (st1 := []) J 125 rfl rfl rfl rfl rfl rfl rfl rfl (Nat.le_of_ble_eq_true rfl) (Nat.le_of_ble_eq_true rfl) (e_offer x44 x50 ⟨by omega, by omega⟩ J.1) ?_
          rintro _ w52 ⟨rfl, J53c, w52o, w52m, w52n⟩
          have J53 := J.trans J53c
          refine ⟨am_len2 J J53c, ?_⟩
          show aw none _ 53 _ (125, [some (.ref 21), some (.ref 3), some (.int p), some (.int sd), some (.int ba), some (.int c), some (.long ys), none, some (.long yt), none, some (.int i), some (.int x42)], []) w52
          have G1 : ofI (EO V ps oh st ch L sd.toInt.toNat c.toInt.toNat) (EI V ps oh st L sd.toInt.toNat c.toInt.toNat i.toInt true) p.toInt.toNat r0 (rI w52 22) := by
            refine F.go (t0 := 36 * sd.toInt.toNat + i.toInt.toNat) (e0 := ps + (if V (40 + i.toInt.toNat) = 94 then oh else 0)) (by split <;> omega) (Or.inl ⟨i.toInt.toNat, es, rfl, rfl⟩) ?_ ?_ ?_
            · have m := w52m
              rw [show x44.toInt.toNat = 36 * sd.toInt.toNat + i.toInt.toNat by omega, show x50.toInt = r0 p.toInt.toNat + (ps + (if V (40 + i.toInt.toNat) = 94 then oh else 0)) from by rw [if_neg (by omega)]; omega] at m
              exact m
            · intro j hj
              exact w52n j (by omega)
            · rintro t e (⟨d, d1, d2, d3, d4⟩ | ⟨d0, d, d1, d2, d3, d4⟩)
              · rcases d1 with d1 | ⟨-, d1⟩
                · exact Or.inl (Or.inl ⟨d, Or.inl d1, d2, d3, d4⟩)
                · have : d = i.toInt.toNat := by omega
                  subst this
                  exact Or.inr ⟨d3, d4⟩
              · exact Or.inl (Or.inr ⟨d0, d, d1, d2, d3, d4⟩)
          have g1 := G1.1
          refine aw_step (f1 := (127, [some (.ref 21), some (.ref 3), some (.int p), some (.int sd), some (.int ba), some (.int c), some (.long ys), none, some (.long yt), none, some (.int i), some (.int x42)], [(.long yt)])) (w1 := w52) rfl rfl ?_
          refine aw_step (f1 := (129, [some (.ref 21), some (.ref 3), some (.int p), some (.int sd), some (.int ba), some (.int c), some (.long ys), none, some (.long yt), none, some (.int i), some (.int x42)], [(.int i), (.long yt)])) (w1 := w52) rfl rfl ?_
          refine s_cs (z := 105) (as := [(.long yt), (.int i)]) (st1 := []) 132 rfl rfl rfl rfl rfl rfl (Nat.le_of_ble_eq_true rfl) (Nat.le_of_ble_eq_true rfl) (Nat.le_of_ble_eq_true rfl) (q_hasC yt i (by omega) (by omega)) ?_
          rintro _ _ ⟨rfl, x54, rfl, x54t⟩
          refine ⟨rfl, ?_⟩
          show aw none _ 53 _ (132, [some (.ref 21), some (.ref 3), some (.int p), some (.int sd), some (.int ba), some (.int c), some (.long ys), none, some (.long yt), none, some (.int i), some (.int x42)], [(.int x54)]) w52
          have x54l := bt_le (n64 yt) i.toInt.toNat
          refine s_if 155 135 rfl rfl rfl (fun (h55 : x54.toInt = 0) => ?_) (fun (h55 : ¬ (x54.toInt = 0)) => ?_)
          · --
            have et : ¬ (0 < st ∧ eV V 1 c.toInt.toNat i.toInt.toNat) := fun q => by have := (yt1 i.toInt.toNat).mpr q; omega
            refine aw_step (f1 := (158, [some (.ref 21), some (.ref 3), some (.int p), some (.int sd), some (.int ba), some (.int c), some (.long ys), none, some (.long yt), none, some (.int (i + Int32.ofInt 1)), some (.int x42)], [])) (w1 := w52) rfl rfl ?_
            obtain ⟨x56, x56e⟩ : ∃ z, z = (i + Int32.ofInt 1) := ⟨_, rfl⟩
            have x56t : x56.toInt = i.toInt + (1) := by rw [x56e]; exact n_add (y := Int32.ofInt (1)) (by show _ ≤ _ + (1 : Int); omega) (by show _ + (1 : Int) ≤ _; omega)
            rw [← x56e]
            refine aw_step (f1 := (61, [some (.ref 21), some (.ref 3), some (.int p), some (.int sd), some (.int ba), some (.int c), some (.long ys), none, some (.long yt), none, some (.int x56), some (.int x42)], [])) (w1 := w52) rfl rfl ?_
            have G2 : ofI (EO V ps oh st ch L sd.toInt.toNat c.toInt.toNat) (EI V ps oh st L sd.toInt.toNat c.toInt.toNat x56.toInt false) p.toInt.toNat r0 (rI w52 22) := by
              refine G1.no ?_
              rintro t e (⟨d, d1, d2, d3, d4⟩ | ⟨d0, d, d1, d2, d3, d4⟩)
              · rcases d1 with d1 | ⟨d1, -⟩
                · exact Or.inl ⟨d, EIb (by omega), d2, d3, d4⟩
                · cases d1
              · by_cases u : d = i.toInt.toNat
                · subst u; exact absurd ⟨d0, d2⟩ et
                · exact Or.inr ⟨d0, d, by omega, d2, d3, d4⟩
            exact ih w52 x56 _ (by omega) (by omega) (by omega) J53 (O.trans w52o) G2
          · --
            have et0 := (yt1 i.toInt.toNat).mp (by omega)
            have et : eV V 1 c.toInt.toNat i.toInt.toNat := et0.2
            have st0 := et0.1
            refine aw_step (f1 := (136, [some (.ref 21), some (.ref 3), some (.int p), some (.int sd), some (.int ba), some (.int c), some (.long ys), none, some (.long yt), none, some (.int i), some (.int x42)], [(.ref 21)])) (w1 := w52) rfl rfl ?_
            refine aw_step (f1 := (138, [some (.ref 21), some (.ref 3), some (.int p), some (.int sd), some (.int ba), some (.int c), some (.long ys), none, some (.long yt), none, some (.int i), some (.int x42)], [(.int ba), (.ref 21)])) (w1 := w52) rfl rfl ?_
            refine aw_step (f1 := (140, [some (.ref 21), some (.ref 3), some (.int p), some (.int sd), some (.int ba), some (.int c), some (.long ys), none, some (.long yt), none, some (.int i), some (.int x42)], [(.int i), (.int ba), (.ref 21)])) (w1 := w52) rfl rfl ?_
            refine s_i (pc1 := 141) (ls1 := [some (.ref 21), some (.ref 3), some (.int p), some (.int sd), some (.int ba), some (.int c), some (.long ys), none, some (.long yt), none, some (.int i), some (.int x42)]) (st1 := [(.ref 21)]) rfl rfl fun x57 e58 => ?_
            have e58 : x57 = ba + i := e58
            have e58t : x57.toInt = ba.toInt + i.toInt := by rw [e58]; exact n_add (by omega) (by omega)
            refine aw_step (f1 := (142, [some (.ref 21), some (.ref 3), some (.int p), some (.int sd), some (.int ba), some (.int c), some (.long ys), none, some (.long yt), none, some (.int i), some (.int x42)], [(.ref 21), (.int x57), (.ref 21)])) (w1 := w52) rfl rfl ?_
            refine s_gr 22 J53 145 rfl rfl rfl rfl rfl rfl ?_
            refine aw_step (f1 := (146, [some (.ref 21), some (.ref 3), some (.int p), some (.int sd), some (.int ba), some (.int c), some (.long ys), none, some (.long yt), none, some (.int i), some (.int x42)], [(.int p), (.ref 22), (.int x57), (.ref 21)])) (w1 := w52) rfl rfl ?_
            refine s_ia J53 147 rfl rfl rfl rfl (by omega) (by omega) fun x59 x59a x59b x59f => ?_
            --
            have hq : x59.toInt = rI w52 22 p.toInt.toNat := (rI_of x59f).symm
            refine aw_step (f1 := (148, [some (.ref 21), some (.ref 3), some (.int p), some (.int sd), some (.int ba), some (.int c), some (.long ys), none, some (.long yt), none, some (.int i), some (.int x42)], [(.ref 21), (.int x59), (.int x57), (.ref 21)])) (w1 := w52) rfl rfl ?_
            refine s_gi J53 151 rfl rfl rfl rfl rfl rfl fun x60 x60a x60b x60f => ?_
            have x60v : x60.toInt = fI w 21 5 := by rw [← fI_of x60f, w52o.fIe (by decide)]
            refine s_i (pc1 := 152) (ls1 := [some (.ref 21), some (.ref 3), some (.int p), some (.int sd), some (.int ba), some (.int c), some (.long ys), none, some (.long yt), none, some (.int i), some (.int x42)]) (st1 := [(.int x57), (.ref 21)]) rfl rfl fun x61 e62 => ?_
            have e62 : x61 = x59 + x60 := e62
            have e62t : x61.toInt = x59.toInt + x60.toInt := by rw [e62]; exact n_add (by omega) (by omega)
            refine s_cv (z := 54) (p := 21) (as := [(.int x57), (.int x61)]) (st1 := []) J53 155 rfl rfl rfl rfl rfl rfl rfl rfl (Nat.le_of_ble_eq_true rfl) (Nat.le_of_ble_eq_true rfl) (e_offer x57 x61 ⟨by omega, by omega⟩ J53.1) ?_
            rintro _ w63 ⟨rfl, J64c, w63o, w63m, w63n⟩
            have J64 := J53.trans J64c
            refine ⟨am_len2 J53 J64c, ?_⟩
            show aw none _ 53 _ (155, [some (.ref 21), some (.ref 3), some (.int p), some (.int sd), some (.int ba), some (.int c), some (.long ys), none, some (.long yt), none, some (.int i), some (.int x42)], []) w63
            --
            refine aw_step (f1 := (158, [some (.ref 21), some (.ref 3), some (.int p), some (.int sd), some (.int ba), some (.int c), some (.long ys), none, some (.long yt), none, some (.int (i + Int32.ofInt 1)), some (.int x42)], [])) (w1 := w63) rfl rfl ?_
            obtain ⟨x65, x65e⟩ : ∃ z, z = (i + Int32.ofInt 1) := ⟨_, rfl⟩
            have x65t : x65.toInt = i.toInt + (1) := by rw [x65e]; exact n_add (y := Int32.ofInt (1)) (by show _ ≤ _ + (1 : Int); omega) (by show _ + (1 : Int) ≤ _; omega)
            rw [← x65e]
            refine aw_step (f1 := (61, [some (.ref 21), some (.ref 3), some (.int p), some (.int sd), some (.int ba), some (.int c), some (.long ys), none, some (.long yt), none, some (.int x65), some (.int x42)], [])) (w1 := w63) rfl rfl ?_
            have G2 : ofI (EO V ps oh st ch L sd.toInt.toNat c.toInt.toNat) (EI V ps oh st L sd.toInt.toNat c.toInt.toNat x65.toInt false) p.toInt.toNat r0 (rI w63 22) := by
              refine G1.go (t0 := 36 * sd.toInt.toNat + i.toInt.toNat) (e0 := st) (by omega) (Or.inr (Or.inl ⟨by omega, i.toInt.toNat, et, rfl, rfl⟩)) ?_ ?_ ?_
              · have m := w63m
                rw [show x57.toInt.toNat = 36 * sd.toInt.toNat + i.toInt.toNat by omega, show x61.toInt = r0 p.toInt.toNat + st from by omega] at m
                exact m
              · intro j hj
                exact w63n j (by omega)
              · rintro t e (⟨d, d1, d2, d3, d4⟩ | ⟨d0, d, d1, d2, d3, d4⟩)
                · rcases d1 with d1 | ⟨d1, -⟩
                  · exact Or.inl (Or.inl ⟨d, EIb (by omega), d2, d3, d4⟩)
                  · cases d1
                · by_cases u : d = i.toInt.toNat
                  · subst u; exact Or.inr ⟨d3, d4⟩
                  · exact Or.inl (Or.inr ⟨d0, d, by omega, d2, d3, d4⟩)
            exact ih w63 x65 _ (by omega) (by omega) (by omega) J64 ((O.trans w52o).trans w63o) G2
        · --
          --
          refine aw_step (f1 := (93, [some (.ref 21), some (.ref 3), some (.int p), some (.int sd), some (.int ba), some (.int c), some (.long ys), none, some (.long yt), none, some (.int i), o11], [(.ref 21)])) (w1 := w) rfl rfl ?_
          refine s_gi J 96 rfl rfl rfl rfl rfl rfl fun x66 x66a x66b x66f => ?_
          have x66v : x66.toInt = fI w 21 4 := by rw [← fI_of x66f]
          refine aw_step (f1 := (100, [some (.ref 21), some (.ref 3), some (.int p), some (.int sd), some (.int ba), some (.int c), some (.long ys), none, some (.long yt), none, some (.int i), o11], [(.int x66)])) (w1 := w) rfl rfl ?_
          refine aw_step (f1 := (102, [some (.ref 21), some (.ref 3), some (.int p), some (.int sd), some (.int ba), some (.int c), some (.long ys), none, some (.long yt), none, some (.int i), some (.int x66)], [])) (w1 := w) rfl rfl ?_
          refine aw_step (f1 := (103, [some (.ref 21), some (.ref 3), some (.int p), some (.int sd), some (.int ba), some (.int c), some (.long ys), none, some (.long yt), none, some (.int i), some (.int x66)], [(.ref 21)])) (w1 := w) rfl rfl ?_
          refine aw_step (f1 := (105, [some (.ref 21), some (.ref 3), some (.int p), some (.int sd), some (.int ba), some (.int c), some (.long ys), none, some (.long yt), none, some (.int i), some (.int x66)], [(.int ba), (.ref 21)])) (w1 := w) rfl rfl ?_
          refine aw_step (f1 := (107, [some (.ref 21), some (.ref 3), some (.int p), some (.int sd), some (.int ba), some (.int c), some (.long ys), none, some (.long yt), none, some (.int i), some (.int x66)], [(.int i), (.int ba), (.ref 21)])) (w1 := w) rfl rfl ?_
          refine s_i (pc1 := 108) (ls1 := [some (.ref 21), some (.ref 3), some (.int p), some (.int sd), some (.int ba), some (.int c), some (.long ys), none, some (.long yt), none, some (.int i), some (.int x66)]) (st1 := [(.ref 21)]) rfl rfl fun x67 e68 => ?_
          have e68 : x67 = ba + i := e68
          have e68t : x67.toInt = ba.toInt + i.toInt := by rw [e68]; exact n_add (by omega) (by omega)
          refine aw_step (f1 := (109, [some (.ref 21), some (.ref 3), some (.int p), some (.int sd), some (.int ba), some (.int c), some (.long ys), none, some (.long yt), none, some (.int i), some (.int x66)], [(.ref 21), (.int x67), (.ref 21)])) (w1 := w) rfl rfl ?_
          refine s_gr 22 J 112 rfl rfl rfl rfl rfl rfl ?_
          refine aw_step (f1 := (113, [some (.ref 21), some (.ref 3), some (.int p), some (.int sd), some (.int ba), some (.int c), some (.long ys), none, some (.long yt), none, some (.int i), some (.int x66)], [(.int p), (.ref 22), (.int x67), (.ref 21)])) (w1 := w) rfl rfl ?_
          refine s_ia J 114 rfl rfl rfl rfl (by omega) (by omega) fun x69 x69a x69b x69f => ?_
          have x69v : x69.toInt = rI w 22 p.toInt.toNat := by rw [← rI_of x69f]
          refine aw_step (f1 := (115, [some (.ref 21), some (.ref 3), some (.int p), some (.int sd), some (.int ba), some (.int c), some (.long ys), none, some (.long yt), none, some (.int i), some (.int x66)], [(.ref 21), (.int x69), (.int x67), (.ref 21)])) (w1 := w) rfl rfl ?_
          refine s_gi J 118 rfl rfl rfl rfl rfl rfl fun x70 x70a x70b x70f => ?_
          have x70v : x70.toInt = fI w 21 3 := by rw [← fI_of x70f]
          refine s_i (pc1 := 119) (ls1 := [some (.ref 21), some (.ref 3), some (.int p), some (.int sd), some (.int ba), some (.int c), some (.long ys), none, some (.long yt), none, some (.int i), some (.int x66)]) (st1 := [(.int x67), (.ref 21)]) rfl rfl fun x71 e72 => ?_
          have e72 : x71 = x69 + x70 := e72
          have e72t : x71.toInt = x69.toInt + x70.toInt := by rw [e72]; exact n_add (by omega) (by omega)
          refine aw_step (f1 := (121, [some (.ref 21), some (.ref 3), some (.int p), some (.int sd), some (.int ba), some (.int c), some (.long ys), none, some (.long yt), none, some (.int i), some (.int x66)], [(.int x66), (.int x71), (.int x67), (.ref 21)])) (w1 := w) rfl rfl ?_
          refine s_i (pc1 := 122) (ls1 := [some (.ref 21), some (.ref 3), some (.int p), some (.int sd), some (.int ba), some (.int c), some (.long ys), none, some (.long yt), none, some (.int i), some (.int x66)]) (st1 := [(.int x67), (.ref 21)]) rfl rfl fun x73 e74 => ?_
          have e74 : x73 = x71 + x66 := e74
          have e74t : x73.toInt = x71.toInt + x66.toInt := by rw [e74]; exact n_add (by omega) (by omega)
          refine s_cv (z := 54) (p := 21) (as := [(.int x67), (.int x73)]) (st1 := []) J 125 rfl rfl rfl rfl rfl rfl rfl rfl (Nat.le_of_ble_eq_true rfl) (Nat.le_of_ble_eq_true rfl) (e_offer x67 x73 ⟨by omega, by omega⟩ J.1) ?_
          rintro _ w75 ⟨rfl, J76c, w75o, w75m, w75n⟩
          have J76 := J.trans J76c
          refine ⟨am_len2 J J76c, ?_⟩
          show aw none _ 53 _ (125, [some (.ref 21), some (.ref 3), some (.int p), some (.int sd), some (.int ba), some (.int c), some (.long ys), none, some (.long yt), none, some (.int i), some (.int x66)], []) w75
          have G1 : ofI (EO V ps oh st ch L sd.toInt.toNat c.toInt.toNat) (EI V ps oh st L sd.toInt.toNat c.toInt.toNat i.toInt true) p.toInt.toNat r0 (rI w75 22) := by
            refine F.go (t0 := 36 * sd.toInt.toNat + i.toInt.toNat) (e0 := ps + (if V (40 + i.toInt.toNat) = 94 then oh else 0)) (by split <;> omega) (Or.inl ⟨i.toInt.toNat, es, rfl, rfl⟩) ?_ ?_ ?_
            · have m := w75m
              rw [show x67.toInt.toNat = 36 * sd.toInt.toNat + i.toInt.toNat by omega, show x73.toInt = r0 p.toInt.toNat + (ps + (if V (40 + i.toInt.toNat) = 94 then oh else 0)) from by rw [if_pos (by omega)]; omega] at m
              exact m
            · intro j hj
              exact w75n j (by omega)
            · rintro t e (⟨d, d1, d2, d3, d4⟩ | ⟨d0, d, d1, d2, d3, d4⟩)
              · rcases d1 with d1 | ⟨-, d1⟩
                · exact Or.inl (Or.inl ⟨d, Or.inl d1, d2, d3, d4⟩)
                · have : d = i.toInt.toNat := by omega
                  subst this
                  exact Or.inr ⟨d3, d4⟩
              · exact Or.inl (Or.inr ⟨d0, d, d1, d2, d3, d4⟩)
          have g1 := G1.1
          refine aw_step (f1 := (127, [some (.ref 21), some (.ref 3), some (.int p), some (.int sd), some (.int ba), some (.int c), some (.long ys), none, some (.long yt), none, some (.int i), some (.int x66)], [(.long yt)])) (w1 := w75) rfl rfl ?_
          refine aw_step (f1 := (129, [some (.ref 21), some (.ref 3), some (.int p), some (.int sd), some (.int ba), some (.int c), some (.long ys), none, some (.long yt), none, some (.int i), some (.int x66)], [(.int i), (.long yt)])) (w1 := w75) rfl rfl ?_
          refine s_cs (z := 105) (as := [(.long yt), (.int i)]) (st1 := []) 132 rfl rfl rfl rfl rfl rfl (Nat.le_of_ble_eq_true rfl) (Nat.le_of_ble_eq_true rfl) (Nat.le_of_ble_eq_true rfl) (q_hasC yt i (by omega) (by omega)) ?_
          rintro _ _ ⟨rfl, x77, rfl, x77t⟩
          refine ⟨rfl, ?_⟩
          show aw none _ 53 _ (132, [some (.ref 21), some (.ref 3), some (.int p), some (.int sd), some (.int ba), some (.int c), some (.long ys), none, some (.long yt), none, some (.int i), some (.int x66)], [(.int x77)]) w75
          have x77l := bt_le (n64 yt) i.toInt.toNat
          refine s_if 155 135 rfl rfl rfl (fun (h78 : x77.toInt = 0) => ?_) (fun (h78 : ¬ (x77.toInt = 0)) => ?_)
          · --
            have et : ¬ (0 < st ∧ eV V 1 c.toInt.toNat i.toInt.toNat) := fun q => by have := (yt1 i.toInt.toNat).mpr q; omega
            refine aw_step (f1 := (158, [some (.ref 21), some (.ref 3), some (.int p), some (.int sd), some (.int ba), some (.int c), some (.long ys), none, some (.long yt), none, some (.int (i + Int32.ofInt 1)), some (.int x66)], [])) (w1 := w75) rfl rfl ?_
            obtain ⟨x79, x79e⟩ : ∃ z, z = (i + Int32.ofInt 1) := ⟨_, rfl⟩
            have x79t : x79.toInt = i.toInt + (1) := by rw [x79e]; exact n_add (y := Int32.ofInt (1)) (by show _ ≤ _ + (1 : Int); omega) (by show _ + (1 : Int) ≤ _; omega)
            rw [← x79e]
            refine aw_step (f1 := (61, [some (.ref 21), some (.ref 3), some (.int p), some (.int sd), some (.int ba), some (.int c), some (.long ys), none, some (.long yt), none, some (.int x79), some (.int x66)], [])) (w1 := w75) rfl rfl ?_
            have G2 : ofI (EO V ps oh st ch L sd.toInt.toNat c.toInt.toNat) (EI V ps oh st L sd.toInt.toNat c.toInt.toNat x79.toInt false) p.toInt.toNat r0 (rI w75 22) := by
              refine G1.no ?_
              rintro t e (⟨d, d1, d2, d3, d4⟩ | ⟨d0, d, d1, d2, d3, d4⟩)
              · rcases d1 with d1 | ⟨d1, -⟩
                · exact Or.inl ⟨d, EIb (by omega), d2, d3, d4⟩
                · cases d1
              · by_cases u : d = i.toInt.toNat
                · subst u; exact absurd ⟨d0, d2⟩ et
                · exact Or.inr ⟨d0, d, by omega, d2, d3, d4⟩
            exact ih w75 x79 _ (by omega) (by omega) (by omega) J76 (O.trans w75o) G2
          · --
            have et0 := (yt1 i.toInt.toNat).mp (by omega)
            have et : eV V 1 c.toInt.toNat i.toInt.toNat := et0.2
            have st0 := et0.1
            refine aw_step (f1 := (136, [some (.ref 21), some (.ref 3), some (.int p), some (.int sd), some (.int ba), some (.int c), some (.long ys), none, some (.long yt), none, some (.int i), some (.int x66)], [(.ref 21)])) (w1 := w75) rfl rfl ?_
            refine aw_step (f1 := (138, [some (.ref 21), some (.ref 3), some (.int p), some (.int sd), some (.int ba), some (.int c), some (.long ys), none, some (.long yt), none, some (.int i), some (.int x66)], [(.int ba), (.ref 21)])) (w1 := w75) rfl rfl ?_
            refine aw_step (f1 := (140, [some (.ref 21), some (.ref 3), some (.int p), some (.int sd), some (.int ba), some (.int c), some (.long ys), none, some (.long yt), none, some (.int i), some (.int x66)], [(.int i), (.int ba), (.ref 21)])) (w1 := w75) rfl rfl ?_
            refine s_i (pc1 := 141) (ls1 := [some (.ref 21), some (.ref 3), some (.int p), some (.int sd), some (.int ba), some (.int c), some (.long ys), none, some (.long yt), none, some (.int i), some (.int x66)]) (st1 := [(.ref 21)]) rfl rfl fun x80 e81 => ?_
            have e81 : x80 = ba + i := e81
            have e81t : x80.toInt = ba.toInt + i.toInt := by rw [e81]; exact n_add (by omega) (by omega)
            refine aw_step (f1 := (142, [some (.ref 21), some (.ref 3), some (.int p), some (.int sd), some (.int ba), some (.int c), some (.long ys), none, some (.long yt), none, some (.int i), some (.int x66)], [(.ref 21), (.int x80), (.ref 21)])) (w1 := w75) rfl rfl ?_
            refine s_gr 22 J76 145 rfl rfl rfl rfl rfl rfl ?_
            refine aw_step (f1 := (146, [some (.ref 21), some (.ref 3), some (.int p), some (.int sd), some (.int ba), some (.int c), some (.long ys), none, some (.long yt), none, some (.int i), some (.int x66)], [(.int p), (.ref 22), (.int x80), (.ref 21)])) (w1 := w75) rfl rfl ?_
            refine s_ia J76 147 rfl rfl rfl rfl (by omega) (by omega) fun x82 x82a x82b x82f => ?_
            --
            have hq : x82.toInt = rI w75 22 p.toInt.toNat := (rI_of x82f).symm
            refine aw_step (f1 := (148, [some (.ref 21), some (.ref 3), some (.int p), some (.int sd), some (.int ba), some (.int c), some (.long ys), none, some (.long yt), none, some (.int i), some (.int x66)], [(.ref 21), (.int x82), (.int x80), (.ref 21)])) (w1 := w75) rfl rfl ?_
            refine s_gi J76 151 rfl rfl rfl rfl rfl rfl fun x83 x83a x83b x83f => ?_
            have x83v : x83.toInt = fI w 21 5 := by rw [← fI_of x83f, w75o.fIe (by decide)]
            refine s_i (pc1 := 152) (ls1 := [some (.ref 21), some (.ref 3), some (.int p), some (.int sd), some (.int ba), some (.int c), some (.long ys), none, some (.long yt), none, some (.int i), some (.int x66)]) (st1 := [(.int x80), (.ref 21)]) rfl rfl fun x84 e85 => ?_
            have e85 : x84 = x82 + x83 := e85
            have e85t : x84.toInt = x82.toInt + x83.toInt := by rw [e85]; exact n_add (by omega) (by omega)
            refine s_cv (z := 54) (p := 21) (as := [(.int x80), (.int x84)]) (st1 := []) J76 155 rfl rfl rfl rfl rfl rfl rfl rfl (Nat.le_of_ble_eq_true rfl) (Nat.le_of_ble_eq_true rfl) (e_offer x80 x84 ⟨by omega, by omega⟩ J76.1) ?_
            rintro _ w86 ⟨rfl, J87c, w86o, w86m, w86n⟩
            have J87 := J76.trans J87c
            refine ⟨am_len2 J76 J87c, ?_⟩
            show aw none _ 53 _ (155, [some (.ref 21), some (.ref 3), some (.int p), some (.int sd), some (.int ba), some (.int c), some (.long ys), none, some (.long yt), none, some (.int i), some (.int x66)], []) w86
            --
            refine aw_step (f1 := (158, [some (.ref 21), some (.ref 3), some (.int p), some (.int sd), some (.int ba), some (.int c), some (.long ys), none, some (.long yt), none, some (.int (i + Int32.ofInt 1)), some (.int x66)], [])) (w1 := w86) rfl rfl ?_
            obtain ⟨x88, x88e⟩ : ∃ z, z = (i + Int32.ofInt 1) := ⟨_, rfl⟩
            have x88t : x88.toInt = i.toInt + (1) := by rw [x88e]; exact n_add (y := Int32.ofInt (1)) (by show _ ≤ _ + (1 : Int); omega) (by show _ + (1 : Int) ≤ _; omega)
            rw [← x88e]
            refine aw_step (f1 := (61, [some (.ref 21), some (.ref 3), some (.int p), some (.int sd), some (.int ba), some (.int c), some (.long ys), none, some (.long yt), none, some (.int x88), some (.int x66)], [])) (w1 := w86) rfl rfl ?_
            have G2 : ofI (EO V ps oh st ch L sd.toInt.toNat c.toInt.toNat) (EI V ps oh st L sd.toInt.toNat c.toInt.toNat x88.toInt false) p.toInt.toNat r0 (rI w86 22) := by
              refine G1.go (t0 := 36 * sd.toInt.toNat + i.toInt.toNat) (e0 := st) (by omega) (Or.inr (Or.inl ⟨by omega, i.toInt.toNat, et, rfl, rfl⟩)) ?_ ?_ ?_
              · have m := w86m
                rw [show x80.toInt.toNat = 36 * sd.toInt.toNat + i.toInt.toNat by omega, show x84.toInt = r0 p.toInt.toNat + st from by omega] at m
                exact m
              · intro j hj
                exact w86n j (by omega)
              · rintro t e (⟨d, d1, d2, d3, d4⟩ | ⟨d0, d, d1, d2, d3, d4⟩)
                · rcases d1 with d1 | ⟨d1, -⟩
                  · exact Or.inl (Or.inl ⟨d, EIb (by omega), d2, d3, d4⟩)
                  · cases d1
                · by_cases u : d = i.toInt.toNat
                  · subst u; exact Or.inr ⟨d3, d4⟩
                  · exact Or.inl (Or.inr ⟨d0, d, by omega, d2, d3, d4⟩)
            exact ih w86 x88 _ (by omega) (by omega) (by omega) J87 ((O.trans w75o).trans w86o) G2
theorem e_goOn {d : Nat} {w : am_W} {V : Nat → Int} {ps oh st ch L0 L1 : Int} {sd0 c0 : Nat} (R : RCs w 3 V) (ok : okT ps oh st ch) (hk3 : fI w 21 3 = ps) (hk4 : fI w 21 4 = oh) (hk5 : fI w 21 5 = st) (hk6 : fI w 21 6 = ch) (g0 : rI w 24 0 = L0) (g1 : rI w 24 1 = L1) (gL : (0 ≤ L0 ∧ L0 ≤ 1000) ∧ 0 ≤ L1 ∧ L1 ≤ 1000) (p : Int32) (hsd : sd0 < 2) (hp : p.toInt = 36 * (sd0 : Int) + c0) (hc : (c0 : Int) < szV V) (hb : ∀ t, t < 72 → 0 ≤ rI w 22 t ∧ rI w 22 t ≤ 1000000) (I : ab_inv ab_TT ab_sets w) : aw none (d + 2) 53 (fun r w1 => r = none ∧ ab_J ab_TT ab_sets ab_WR w w1 ∧ only [22] w w1 ∧ ofI (EO V ps oh st ch (if sd0 = 0 then L0 else L1) sd0 c0) (EO V ps oh st ch (if sd0 = 0 then L0 else L1) sd0 c0) p.toInt.toNat (rI w 22) (rI w1 22)) (0, am_entry 53 [.ref 21, .ref 3, .int p], []) w := by
  have J : ab_J ab_TT ab_sets ab_WR w w := ⟨I, ab_fr.rf⟩
  have szc := szC_in I
  have hsz := R.sz
  show aw none (d + 2) 53 _ (0, [some (.ref 21), some (.ref 3), some (.int p), none, none, none, none, none, none, none, none, none], []) w
  refine aw_step (f1 := (1, [some (.ref 21), some (.ref 3), some (.int p), none, none, none, none, none, none, none, none, none], [(.int p)])) (w1 := w) rfl rfl ?_
  refine s_i (pc1 := 3) (ls1 := [some (.ref 21), some (.ref 3), some (.int p), none, none, none, none, none, none, none, none, none]) (st1 := [(.int p)]) rfl rfl fun x1 e2 => ?_
  have e2t : x1.toInt = 36 := by rw [e2]; rfl
  refine s_ic 10 6 rfl rfl rfl (fun (h3 : x1.toInt ≤ p.toInt) => ?_) (fun (h3 : ¬ (x1.toInt ≤ p.toInt)) => ?_)
  · --
    refine s_i (pc1 := 11) (ls1 := [some (.ref 21), some (.ref 3), some (.int p), none, none, none, none, none, none, none, none, none]) (st1 := []) rfl rfl fun x4 e5 => ?_
    have e5t : x4.toInt = 1 := by rw [e5]; rfl
    refine aw_step (f1 := (12, [some (.ref 21), some (.ref 3), some (.int p), some (.int x4), none, none, none, none, none, none, none, none], [])) (w1 := w) rfl rfl ?_
    refine aw_step (f1 := (13, [some (.ref 21), some (.ref 3), some (.int p), some (.int x4), none, none, none, none, none, none, none, none], [(.int x4)])) (w1 := w) rfl rfl ?_
    refine s_i (pc1 := 15) (ls1 := [some (.ref 21), some (.ref 3), some (.int p), some (.int x4), none, none, none, none, none, none, none, none]) (st1 := [(.int x4)]) rfl rfl fun x6 e7 => ?_
    have e7t : x6.toInt = 36 := by rw [e7]; rfl
    refine s_i (pc1 := 16) (ls1 := [some (.ref 21), some (.ref 3), some (.int p), some (.int x4), none, none, none, none, none, none, none, none]) (st1 := []) rfl rfl fun x8 e9 => ?_
    have e9 : x8 = x4 * x6 := e9
    have e9t : x8.toInt = 1 * x6.toInt := by rw [e9, n_mul (by rw [e5t]; omega) (by rw [e5t]; omega), e5t]
    refine aw_step (f1 := (18, [some (.ref 21), some (.ref 3), some (.int p), some (.int x4), some (.int x8), none, none, none, none, none, none, none], [])) (w1 := w) rfl rfl ?_
    refine aw_step (f1 := (19, [some (.ref 21), some (.ref 3), some (.int p), some (.int x4), some (.int x8), none, none, none, none, none, none, none], [(.int p)])) (w1 := w) rfl rfl ?_
    refine aw_step (f1 := (21, [some (.ref 21), some (.ref 3), some (.int p), some (.int x4), some (.int x8), none, none, none, none, none, none, none], [(.int x8), (.int p)])) (w1 := w) rfl rfl ?_
    refine s_i (pc1 := 22) (ls1 := [some (.ref 21), some (.ref 3), some (.int p), some (.int x4), some (.int x8), none, none, none, none, none, none, none]) (st1 := []) rfl rfl fun x10 e11 => ?_
    have e11 : x10 = p - x8 := e11
    have e11t : x10.toInt = p.toInt - x8.toInt := by rw [e11]; exact n_sub (by omega) (by omega)
    refine aw_step (f1 := (24, [some (.ref 21), some (.ref 3), some (.int p), some (.int x4), some (.int x8), some (.int x10), none, none, none, none, none, none], [])) (w1 := w) rfl rfl ?_
    refine aw_step (f1 := (25, [some (.ref 21), some (.ref 3), some (.int p), some (.int x4), some (.int x8), some (.int x10), none, none, none, none, none, none], [(.ref 3)])) (w1 := w) rfl rfl ?_
    refine aw_step (f1 := (26, [some (.ref 21), some (.ref 3), some (.int p), some (.int x4), some (.int x8), some (.int x10), none, none, none, none, none, none], [(.ref 21), (.ref 3)])) (w1 := w) rfl rfl ?_
    refine s_gr 24 J 29 rfl rfl rfl rfl rfl rfl ?_
    refine aw_step (f1 := (30, [some (.ref 21), some (.ref 3), some (.int p), some (.int x4), some (.int x8), some (.int x10), none, none, none, none, none, none], [(.int x4), (.ref 24), (.ref 3)])) (w1 := w) rfl rfl ?_
    --
    refine s_ia J 31 rfl rfl rfl rfl (by omega) (by omega) fun x12 x12a x12b x12f => ?_
    have x12v : x12.toInt = rI w 24 x4.toInt.toNat := by rw [← rI_of x12f]
    have hL : x12.toInt = if sd0 = 0 then L0 else L1 := by
      rw [x12v]
      first
        | (rw [show x4.toInt.toNat = 0 by omega, if_pos (by omega)]; exact g0)
        | (rw [show x4.toInt.toNat = 1 by omega, if_neg (by omega)]; exact g1)
    have hLb : 0 ≤ x12.toInt ∧ x12.toInt ≤ 1000 := by rw [hL]; split <;> omega
    refine aw_step (f1 := (33, [some (.ref 21), some (.ref 3), some (.int p), some (.int x4), some (.int x8), some (.int x10), none, none, none, none, none, none], [(.int x10), (.int x12), (.ref 3)])) (w1 := w) rfl rfl ?_
    refine s_cv (z := 44) (p := 3) (as := [(.int x12), (.int x10)]) (st1 := []) J 36 rfl rfl rfl rfl rfl rfl rfl rfl (Nat.le_of_ble_eq_true rfl) (Nat.le_of_ble_eq_true rfl) (e_reach R x12 x10 ⟨by omega, by omega⟩ ⟨by omega, by omega⟩ J.1) ?_
    rintro _ _ ⟨rfl, y13, rfl, y13t⟩
    refine ⟨rfl, ?_⟩
    show aw none _ 53 _ (36, [some (.ref 21), some (.ref 3), some (.int p), some (.int x4), some (.int x8), some (.int x10), none, none, none, none, none, none], [(.long y13)]) w
    have ls1 : lsV V x12.toInt (x10.toInt.toNat : Nat) (n64 y13) := by rw [show ((x10.toInt.toNat : Nat) : Int) = x10.toInt by omega]; exact y13t
    refine aw_step (f1 := (38, [some (.ref 21), some (.ref 3), some (.int p), some (.int x4), some (.int x8), some (.int x10), some (.long y13), none, none, none, none, none], [])) (w1 := w) rfl rfl ?_
    refine aw_step (f1 := (39, [some (.ref 21), some (.ref 3), some (.int p), some (.int x4), some (.int x8), some (.int x10), some (.long y13), none, none, none, none, none], [(.ref 21)])) (w1 := w) rfl rfl ?_
    refine s_gi J 42 rfl rfl rfl rfl rfl rfl fun x14 x14a x14b x14f => ?_
    have x14v : x14.toInt = fI w 21 5 := by rw [← fI_of x14f]
    refine s_if 55 45 rfl rfl rfl (fun (h15 : x14.toInt ≤ 0) => ?_) (fun (h15 : ¬ (x14.toInt ≤ 0)) => ?_)
    · --
      --
      refine s_l (pc1 := 56) (ls1 := [some (.ref 21), some (.ref 3), some (.int p), some (.int x4), some (.int x8), some (.int x10), some (.long y13), none, none, none, none, none]) (st1 := []) rfl rfl fun y16 e17 => ?_
      have e17t : y16.toInt = 0 := by rw [e17]; rfl
      refine aw_step (f1 := (58, [some (.ref 21), some (.ref 3), some (.int p), some (.int x4), some (.int x8), some (.int x10), some (.long y13), none, some (.long y16), none, none, none], [])) (w1 := w) rfl rfl ?_
      refine s_i (pc1 := 59) (ls1 := [some (.ref 21), some (.ref 3), some (.int p), some (.int x4), some (.int x8), some (.int x10), some (.long y13), none, some (.long y16), none, none, none]) (st1 := []) rfl rfl fun x18 e19 => ?_
      have e19t : x18.toInt = 0 := by rw [e19]; rfl
      refine aw_step (f1 := (61, [some (.ref 21), some (.ref 3), some (.int p), some (.int x4), some (.int x8), some (.int x10), some (.long y13), none, some (.long y16), none, some (.int x18), none], [])) (w1 := w) rfl rfl ?_
      have yt1 : ∀ j, bt (n64 y16) j = 1 ↔ 0 < st ∧ eV V 1 x10.toInt.toNat j := fun j => by
        rw [n64_z.mp e17t, bt_z]
        exact ⟨fun z => by omega, fun z => by have := z.1; omega⟩
      have T := e_goL (d := d) (L := (if sd0 = 0 then L0 else L1)) (r0 := rI w 22) R ok hk3 hk4 hk5 hk6 p x4 x8 x10 y13 y16 ⟨by omega, by omega⟩ (by omega) (by omega) ⟨by omega, by omega⟩ hb (fun j => by rw [lsV_e ls1 j, hL]) yt1 I 37 w x18 none (by omega) (by omega) (by omega) J only.rf (ofI.z (by
        rintro t e (⟨d, d1, -⟩ | ⟨-, d, d1, -⟩)
        · rcases d1 with d1 | ⟨d1, -⟩
          · omega
          · cases d1
        · omega))
      rw [show x4.toInt.toNat = sd0 by omega, show x10.toInt.toNat = c0 by omega] at T
      exact T
    · --
      --
      refine aw_step (f1 := (46, [some (.ref 21), some (.ref 3), some (.int p), some (.int x4), some (.int x8), some (.int x10), some (.long y13), none, none, none, none, none], [(.ref 3)])) (w1 := w) rfl rfl ?_
      refine s_i (pc1 := 47) (ls1 := [some (.ref 21), some (.ref 3), some (.int p), some (.int x4), some (.int x8), some (.int x10), some (.long y13), none, none, none, none, none]) (st1 := [(.ref 3)]) rfl rfl fun x20 e21 => ?_
      have e21t : x20.toInt = 1 := by rw [e21]; rfl
      --
      refine aw_step (f1 := (49, [some (.ref 21), some (.ref 3), some (.int p), some (.int x4), some (.int x8), some (.int x10), some (.long y13), none, none, none, none, none], [(.int x10), (.int x20), (.ref 3)])) (w1 := w) rfl rfl ?_
      refine s_cv (z := 44) (p := 3) (as := [(.int x20), (.int x10)]) (st1 := []) J 52 rfl rfl rfl rfl rfl rfl rfl rfl (Nat.le_of_ble_eq_true rfl) (Nat.le_of_ble_eq_true rfl) (e_reach R x20 x10 ⟨by omega, by omega⟩ ⟨by omega, by omega⟩ J.1) ?_
      rintro _ _ ⟨rfl, y22, rfl, y22t⟩
      refine ⟨rfl, ?_⟩
      show aw none _ 53 _ (52, [some (.ref 21), some (.ref 3), some (.int p), some (.int x4), some (.int x8), some (.int x10), some (.long y13), none, none, none, none, none], [(.long y22)]) w
      have lt1 : lsV V 1 (x10.toInt.toNat : Nat) (n64 y22) := by rw [show ((x10.toInt.toNat : Nat) : Int) = x10.toInt by omega, ← show x20.toInt = 1 by omega]; exact y22t
      refine aw_step (f1 := (56, [some (.ref 21), some (.ref 3), some (.int p), some (.int x4), some (.int x8), some (.int x10), some (.long y13), none, none, none, none, none], [(.long y22)])) (w1 := w) rfl rfl ?_
      refine aw_step (f1 := (58, [some (.ref 21), some (.ref 3), some (.int p), some (.int x4), some (.int x8), some (.int x10), some (.long y13), none, some (.long y22), none, none, none], [])) (w1 := w) rfl rfl ?_
      refine s_i (pc1 := 59) (ls1 := [some (.ref 21), some (.ref 3), some (.int p), some (.int x4), some (.int x8), some (.int x10), some (.long y13), none, some (.long y22), none, none, none]) (st1 := []) rfl rfl fun x23 e24 => ?_
      have e24t : x23.toInt = 0 := by rw [e24]; rfl
      refine aw_step (f1 := (61, [some (.ref 21), some (.ref 3), some (.int p), some (.int x4), some (.int x8), some (.int x10), some (.long y13), none, some (.long y22), none, some (.int x23), none], [])) (w1 := w) rfl rfl ?_
      have yt1 : ∀ j, bt (n64 y22) j = 1 ↔ 0 < st ∧ eV V 1 x10.toInt.toNat j := fun j => by
        have q := lsV_e lt1 j
        have hk : 0 < st := by omega
        exact q.trans ⟨fun z => ⟨hk, z⟩, fun z => z.2⟩
      have T := e_goL (d := d) (L := (if sd0 = 0 then L0 else L1)) (r0 := rI w 22) R ok hk3 hk4 hk5 hk6 p x4 x8 x10 y13 y22 ⟨by omega, by omega⟩ (by omega) (by omega) ⟨by omega, by omega⟩ hb (fun j => by rw [lsV_e ls1 j, hL]) yt1 I 37 w x23 none (by omega) (by omega) (by omega) J only.rf (ofI.z (by
        rintro t e (⟨d, d1, -⟩ | ⟨-, d, d1, -⟩)
        · rcases d1 with d1 | ⟨d1, -⟩
          · omega
          · cases d1
        · omega))
      rw [show x4.toInt.toNat = sd0 by omega, show x10.toInt.toNat = c0 by omega] at T
      exact T
  · --
    refine s_i (pc1 := 7) (ls1 := [some (.ref 21), some (.ref 3), some (.int p), none, none, none, none, none, none, none, none, none]) (st1 := []) rfl rfl fun x25 e26 => ?_
    have e26t : x25.toInt = 0 := by rw [e26]; rfl
    refine aw_step (f1 := (11, [some (.ref 21), some (.ref 3), some (.int p), none, none, none, none, none, none, none, none, none], [(.int x25)])) (w1 := w) rfl rfl ?_
    refine aw_step (f1 := (12, [some (.ref 21), some (.ref 3), some (.int p), some (.int x25), none, none, none, none, none, none, none, none], [])) (w1 := w) rfl rfl ?_
    refine aw_step (f1 := (13, [some (.ref 21), some (.ref 3), some (.int p), some (.int x25), none, none, none, none, none, none, none, none], [(.int x25)])) (w1 := w) rfl rfl ?_
    refine s_i (pc1 := 15) (ls1 := [some (.ref 21), some (.ref 3), some (.int p), some (.int x25), none, none, none, none, none, none, none, none]) (st1 := [(.int x25)]) rfl rfl fun x27 e28 => ?_
    have e28t : x27.toInt = 36 := by rw [e28]; rfl
    refine s_i (pc1 := 16) (ls1 := [some (.ref 21), some (.ref 3), some (.int p), some (.int x25), none, none, none, none, none, none, none, none]) (st1 := []) rfl rfl fun x29 e30 => ?_
    have e30 : x29 = x25 * x27 := e30
    have e30t : x29.toInt = 0 * x27.toInt := by rw [e30, n_mul (by rw [e26t]; omega) (by rw [e26t]; omega), e26t]
    refine aw_step (f1 := (18, [some (.ref 21), some (.ref 3), some (.int p), some (.int x25), some (.int x29), none, none, none, none, none, none, none], [])) (w1 := w) rfl rfl ?_
    refine aw_step (f1 := (19, [some (.ref 21), some (.ref 3), some (.int p), some (.int x25), some (.int x29), none, none, none, none, none, none, none], [(.int p)])) (w1 := w) rfl rfl ?_
    refine aw_step (f1 := (21, [some (.ref 21), some (.ref 3), some (.int p), some (.int x25), some (.int x29), none, none, none, none, none, none, none], [(.int x29), (.int p)])) (w1 := w) rfl rfl ?_
    refine s_i (pc1 := 22) (ls1 := [some (.ref 21), some (.ref 3), some (.int p), some (.int x25), some (.int x29), none, none, none, none, none, none, none]) (st1 := []) rfl rfl fun x31 e32 => ?_
    have e32 : x31 = p - x29 := e32
    have e32t : x31.toInt = p.toInt - x29.toInt := by rw [e32]; exact n_sub (by omega) (by omega)
    refine aw_step (f1 := (24, [some (.ref 21), some (.ref 3), some (.int p), some (.int x25), some (.int x29), some (.int x31), none, none, none, none, none, none], [])) (w1 := w) rfl rfl ?_
    refine aw_step (f1 := (25, [some (.ref 21), some (.ref 3), some (.int p), some (.int x25), some (.int x29), some (.int x31), none, none, none, none, none, none], [(.ref 3)])) (w1 := w) rfl rfl ?_
    refine aw_step (f1 := (26, [some (.ref 21), some (.ref 3), some (.int p), some (.int x25), some (.int x29), some (.int x31), none, none, none, none, none, none], [(.ref 21), (.ref 3)])) (w1 := w) rfl rfl ?_
    refine s_gr 24 J 29 rfl rfl rfl rfl rfl rfl ?_
    refine aw_step (f1 := (30, [some (.ref 21), some (.ref 3), some (.int p), some (.int x25), some (.int x29), some (.int x31), none, none, none, none, none, none], [(.int x25), (.ref 24), (.ref 3)])) (w1 := w) rfl rfl ?_
    --
    refine s_ia J 31 rfl rfl rfl rfl (by omega) (by omega) fun x33 x33a x33b x33f => ?_
    have x33v : x33.toInt = rI w 24 x25.toInt.toNat := by rw [← rI_of x33f]
    have hL : x33.toInt = if sd0 = 0 then L0 else L1 := by
      rw [x33v]
      first
        | (rw [show x25.toInt.toNat = 0 by omega, if_pos (by omega)]; exact g0)
        | (rw [show x25.toInt.toNat = 1 by omega, if_neg (by omega)]; exact g1)
    have hLb : 0 ≤ x33.toInt ∧ x33.toInt ≤ 1000 := by rw [hL]; split <;> omega
    refine aw_step (f1 := (33, [some (.ref 21), some (.ref 3), some (.int p), some (.int x25), some (.int x29), some (.int x31), none, none, none, none, none, none], [(.int x31), (.int x33), (.ref 3)])) (w1 := w) rfl rfl ?_
    refine s_cv (z := 44) (p := 3) (as := [(.int x33), (.int x31)]) (st1 := []) J 36 rfl rfl rfl rfl rfl rfl rfl rfl (Nat.le_of_ble_eq_true rfl) (Nat.le_of_ble_eq_true rfl) (e_reach R x33 x31 ⟨by omega, by omega⟩ ⟨by omega, by omega⟩ J.1) ?_
    rintro _ _ ⟨rfl, y34, rfl, y34t⟩
    refine ⟨rfl, ?_⟩
    show aw none _ 53 _ (36, [some (.ref 21), some (.ref 3), some (.int p), some (.int x25), some (.int x29), some (.int x31), none, none, none, none, none, none], [(.long y34)]) w
    have ls1 : lsV V x33.toInt (x31.toInt.toNat : Nat) (n64 y34) := by rw [show ((x31.toInt.toNat : Nat) : Int) = x31.toInt by omega]; exact y34t
    refine aw_step (f1 := (38, [some (.ref 21), some (.ref 3), some (.int p), some (.int x25), some (.int x29), some (.int x31), some (.long y34), none, none, none, none, none], [])) (w1 := w) rfl rfl ?_
    refine aw_step (f1 := (39, [some (.ref 21), some (.ref 3), some (.int p), some (.int x25), some (.int x29), some (.int x31), some (.long y34), none, none, none, none, none], [(.ref 21)])) (w1 := w) rfl rfl ?_
    refine s_gi J 42 rfl rfl rfl rfl rfl rfl fun x35 x35a x35b x35f => ?_
    have x35v : x35.toInt = fI w 21 5 := by rw [← fI_of x35f]
    refine s_if 55 45 rfl rfl rfl (fun (h36 : x35.toInt ≤ 0) => ?_) (fun (h36 : ¬ (x35.toInt ≤ 0)) => ?_)
    · --
      --
      refine s_l (pc1 := 56) (ls1 := [some (.ref 21), some (.ref 3), some (.int p), some (.int x25), some (.int x29), some (.int x31), some (.long y34), none, none, none, none, none]) (st1 := []) rfl rfl fun y37 e38 => ?_
      have e38t : y37.toInt = 0 := by rw [e38]; rfl
      refine aw_step (f1 := (58, [some (.ref 21), some (.ref 3), some (.int p), some (.int x25), some (.int x29), some (.int x31), some (.long y34), none, some (.long y37), none, none, none], [])) (w1 := w) rfl rfl ?_
      refine s_i (pc1 := 59) (ls1 := [some (.ref 21), some (.ref 3), some (.int p), some (.int x25), some (.int x29), some (.int x31), some (.long y34), none, some (.long y37), none, none, none]) (st1 := []) rfl rfl fun x39 e40 => ?_
      have e40t : x39.toInt = 0 := by rw [e40]; rfl
      refine aw_step (f1 := (61, [some (.ref 21), some (.ref 3), some (.int p), some (.int x25), some (.int x29), some (.int x31), some (.long y34), none, some (.long y37), none, some (.int x39), none], [])) (w1 := w) rfl rfl ?_
      have yt1 : ∀ j, bt (n64 y37) j = 1 ↔ 0 < st ∧ eV V 1 x31.toInt.toNat j := fun j => by
        rw [n64_z.mp e38t, bt_z]
        exact ⟨fun z => by omega, fun z => by have := z.1; omega⟩
      have T := e_goL (d := d) (L := (if sd0 = 0 then L0 else L1)) (r0 := rI w 22) R ok hk3 hk4 hk5 hk6 p x25 x29 x31 y34 y37 ⟨by omega, by omega⟩ (by omega) (by omega) ⟨by omega, by omega⟩ hb (fun j => by rw [lsV_e ls1 j, hL]) yt1 I 37 w x39 none (by omega) (by omega) (by omega) J only.rf (ofI.z (by
        rintro t e (⟨d, d1, -⟩ | ⟨-, d, d1, -⟩)
        · rcases d1 with d1 | ⟨d1, -⟩
          · omega
          · cases d1
        · omega))
      rw [show x25.toInt.toNat = sd0 by omega, show x31.toInt.toNat = c0 by omega] at T
      exact T
    · --
      --
      refine aw_step (f1 := (46, [some (.ref 21), some (.ref 3), some (.int p), some (.int x25), some (.int x29), some (.int x31), some (.long y34), none, none, none, none, none], [(.ref 3)])) (w1 := w) rfl rfl ?_
      refine s_i (pc1 := 47) (ls1 := [some (.ref 21), some (.ref 3), some (.int p), some (.int x25), some (.int x29), some (.int x31), some (.long y34), none, none, none, none, none]) (st1 := [(.ref 3)]) rfl rfl fun x41 e42 => ?_
      have e42t : x41.toInt = 1 := by rw [e42]; rfl
      --
      refine aw_step (f1 := (49, [some (.ref 21), some (.ref 3), some (.int p), some (.int x25), some (.int x29), some (.int x31), some (.long y34), none, none, none, none, none], [(.int x31), (.int x41), (.ref 3)])) (w1 := w) rfl rfl ?_
      refine s_cv (z := 44) (p := 3) (as := [(.int x41), (.int x31)]) (st1 := []) J 52 rfl rfl rfl rfl rfl rfl rfl rfl (Nat.le_of_ble_eq_true rfl) (Nat.le_of_ble_eq_true rfl) (e_reach R x41 x31 ⟨by omega, by omega⟩ ⟨by omega, by omega⟩ J.1) ?_
      rintro _ _ ⟨rfl, y43, rfl, y43t⟩
      refine ⟨rfl, ?_⟩
      show aw none _ 53 _ (52, [some (.ref 21), some (.ref 3), some (.int p), some (.int x25), some (.int x29), some (.int x31), some (.long y34), none, none, none, none, none], [(.long y43)]) w
      have lt1 : lsV V 1 (x31.toInt.toNat : Nat) (n64 y43) := by rw [show ((x31.toInt.toNat : Nat) : Int) = x31.toInt by omega, ← show x41.toInt = 1 by omega]; exact y43t
      refine aw_step (f1 := (56, [some (.ref 21), some (.ref 3), some (.int p), some (.int x25), some (.int x29), some (.int x31), some (.long y34), none, none, none, none, none], [(.long y43)])) (w1 := w) rfl rfl ?_
      refine aw_step (f1 := (58, [some (.ref 21), some (.ref 3), some (.int p), some (.int x25), some (.int x29), some (.int x31), some (.long y34), none, some (.long y43), none, none, none], [])) (w1 := w) rfl rfl ?_
      refine s_i (pc1 := 59) (ls1 := [some (.ref 21), some (.ref 3), some (.int p), some (.int x25), some (.int x29), some (.int x31), some (.long y34), none, some (.long y43), none, none, none]) (st1 := []) rfl rfl fun x44 e45 => ?_
      have e45t : x44.toInt = 0 := by rw [e45]; rfl
      refine aw_step (f1 := (61, [some (.ref 21), some (.ref 3), some (.int p), some (.int x25), some (.int x29), some (.int x31), some (.long y34), none, some (.long y43), none, some (.int x44), none], [])) (w1 := w) rfl rfl ?_
      have yt1 : ∀ j, bt (n64 y43) j = 1 ↔ 0 < st ∧ eV V 1 x31.toInt.toNat j := fun j => by
        have q := lsV_e lt1 j
        have hk : 0 < st := by omega
        exact q.trans ⟨fun z => ⟨hk, z⟩, fun z => z.2⟩
      have T := e_goL (d := d) (L := (if sd0 = 0 then L0 else L1)) (r0 := rI w 22) R ok hk3 hk4 hk5 hk6 p x25 x29 x31 y34 y43 ⟨by omega, by omega⟩ (by omega) (by omega) ⟨by omega, by omega⟩ hb (fun j => by rw [lsV_e ls1 j, hL]) yt1 I 37 w x44 none (by omega) (by omega) (by omega) J only.rf (ofI.z (by
        rintro t e (⟨d, d1, -⟩ | ⟨-, d, d1, -⟩)
        · rcases d1 with d1 | ⟨d1, -⟩
          · omega
          · cases d1
        · omega))
      rw [show x25.toInt.toNat = sd0 by omega, show x31.toInt.toNat = c0 by omega] at T
      exact T
/-- the cheapest place that isn't settled, below i -/
noncomputable def nrP (r q : Nat → Int) (i z : Int) : Prop := (z = -6 ∧ ∀ t : Nat, (t : Int) < i → q t ≠ 0 ∨ r t = 1000000) ∨ ((0 ≤ z ∧ z < i) ∧ q z.toNat = 0 ∧ r z.toNat ≠ 1000000 ∧ ∀ t : Nat, (t : Int) < i → q t = 0 → r t ≠ 1000000 → r z.toNat ≤ r t)
theorem nrP.b {r q : Nat → Int} {i z : Int} (h : nrP r q i z) : z = -6 ∨ (0 ≤ z ∧ z < i) := by
  rcases h with h | h
  · exact Or.inl h.1
  · exact Or.inr h.1
theorem nrP.st {r q : Nat → Int} {i z z' : Int} (h : nrP r q i z) (h0 : 0 ≤ i) (e : ((q i.toNat ≠ 0 ∨ r i.toNat = 1000000) ∧ z' = z) ∨ (q i.toNat = 0 ∧ r i.toNat ≠ 1000000 ∧ z = -6 ∧ z' = i) ∨ (q i.toNat = 0 ∧ r i.toNat ≠ 1000000 ∧ z ≠ -6 ∧ r i.toNat < r z.toNat ∧ z' = i) ∨ (q i.toNat = 0 ∧ r i.toNat ≠ 1000000 ∧ z ≠ -6 ∧ r z.toNat ≤ r i.toNat ∧ z' = z)) : nrP r q (i + 1) z' := by
  have cs : ∀ j : Nat, (j : Int) < i + 1 → (j : Int) < i ∨ j = i.toNat := fun j hj => by omega
  rcases e with ⟨e1, e2⟩ | ⟨e1, e2, e3, e4⟩ | ⟨e1, e2, e3, e4, e5⟩ | ⟨e1, e2, e3, e4, e5⟩
  · subst e2
    rcases h with ⟨h1, h2⟩ | ⟨h1, h2, h3, h4⟩
    · refine Or.inl ⟨h1, fun t ht => ?_⟩
      rcases cs t ht with u | u
      · exact h2 t u
      · rw [u]; exact e1
    · refine Or.inr ⟨by omega, h2, h3, fun t ht t1 t2 => ?_⟩
      rcases cs t ht with u | u
      · exact h4 t u t1 t2
      · rw [u] at t1 t2; omega
  · subst e4
    rcases h with ⟨h1, h2⟩ | ⟨h1, h2, h3, h4⟩
    · refine Or.inr ⟨by omega, e1, e2, fun t ht t1 t2 => ?_⟩
      rcases cs t ht with u | u
      · have := h2 t u; omega
      · rw [u]; omega
    · omega
  · subst e5
    rcases h with ⟨h1, h2⟩ | ⟨h1, h2, h3, h4⟩
    · omega
    · refine Or.inr ⟨by omega, e1, e2, fun t ht t1 t2 => ?_⟩
      rcases cs t ht with u | u
      · have := h4 t u t1 t2; omega
      · rw [u]; omega
  · subst e5
    rcases h with ⟨h1, h2⟩ | ⟨h1, h2, h3, h4⟩
    · omega
    · refine Or.inr ⟨by omega, h2, h3, fun t ht t1 t2 => ?_⟩
      rcases cs t ht with u | u
      · exact h4 t u t1 t2
      · rw [u]; exact e4
theorem e_nrL {d : Nat} {w : am_W} (J : ab_J ab_TT ab_sets ab_WR w w) : ∀ (m : Nat) (z i : Int32) (o3 : Option Value), (72 - i.toInt).toNat < m → 0 ≤ i.toInt → i.toInt ≤ 72 → nrP (rI w 22) (rI w 23) i.toInt z.toInt → aw none (d + 1) 52 (fun r w1 => w = w1 ∧ ∃ z : Int32, r = some (.int z) ∧ nrP (rI w 22) (rI w 23) 72 z.toInt) (5, [some (.ref 21), some (.int z), some (.int i), o3], []) w := by
  intro m
  induction m with
  | zero => intro z i o3 p; omega
  | succ m ih =>
    intro z i o3 p1 p2 p3 F
    have zb := F.b
    refine aw_step (f1 := (6, [some (.ref 21), some (.int z), some (.int i), o3], [(.int i)])) (w1 := w) rfl rfl ?_
    refine aw_step (f1 := (7, [some (.ref 21), some (.int z), some (.int i), o3], [(.ref 21), (.int i)])) (w1 := w) rfl rfl ?_
    refine s_gr 22 J 10 rfl rfl rfl rfl rfl rfl ?_
    refine s_al J 11 rfl rfl rfl rfl (by decide) fun x1 x1t => ?_
    refine s_ic 73 14 rfl rfl rfl (fun (h2 : x1.toInt ≤ i.toInt) => ?_) (fun (h2 : ¬ (x1.toInt ≤ i.toInt)) => ?_)
    · --
      refine aw_step (f1 := (74, [some (.ref 21), some (.int z), some (.int i), o3], [(.int z)])) (w1 := w) rfl rfl ?_
      refine aw_ret (v := some (.int z)) rfl rfl ?_
      rw [show i.toInt = 72 by omega] at F
      exact ⟨rfl, z, rfl, F⟩
    · --
      refine aw_step (f1 := (15, [some (.ref 21), some (.int z), some (.int i), o3], [(.ref 21)])) (w1 := w) rfl rfl ?_
      refine s_gr 23 J 18 rfl rfl rfl rfl rfl rfl ?_
      refine aw_step (f1 := (19, [some (.ref 21), some (.int z), some (.int i), o3], [(.int i), (.ref 23)])) (w1 := w) rfl rfl ?_
      refine s_ia J 20 rfl rfl rfl rfl (by omega) (by omega) fun x3 x3a x3b x3f => ?_
      have x3v : x3.toInt = rI w 23 i.toInt.toNat := by rw [← rI_of x3f]
      refine s_if 38 23 rfl rfl rfl (fun (h4 : ¬ x3.toInt = 0) => ?_) (fun (h4 : ¬ (¬ x3.toInt = 0)) => ?_)
      · --
        refine s_i (pc1 := 39) (ls1 := [some (.ref 21), some (.int z), some (.int i), o3]) (st1 := []) rfl rfl fun x5 e6 => ?_
        have e6t : x5.toInt = 0 := by rw [e6]; rfl
        refine aw_step (f1 := (40, [some (.ref 21), some (.int z), some (.int i), some (.int x5)], [])) (w1 := w) rfl rfl ?_
        refine aw_step (f1 := (41, [some (.ref 21), some (.int z), some (.int i), some (.int x5)], [(.int x5)])) (w1 := w) rfl rfl ?_
        refine s_if 67 44 rfl rfl rfl (fun (h7 : x5.toInt = 0) => ?_) (fun (h7 : ¬ (x5.toInt = 0)) => ?_)
        · --
          refine aw_step (f1 := (70, [some (.ref 21), some (.int z), some (.int (i + Int32.ofInt 1)), some (.int x5)], [])) (w1 := w) rfl rfl ?_
          obtain ⟨x8, x8e⟩ : ∃ z, z = (i + Int32.ofInt 1) := ⟨_, rfl⟩
          have x8t : x8.toInt = i.toInt + (1) := by rw [x8e]; exact n_add (y := Int32.ofInt (1)) (by show _ ≤ _ + (1 : Int); omega) (by show _ + (1 : Int) ≤ _; omega)
          rw [← x8e]
          refine aw_step (f1 := (5, [some (.ref 21), some (.int z), some (.int x8), some (.int x5)], [])) (w1 := w) rfl rfl ?_
          exact ih z x8 _ (by omega) (by omega) (by omega) (by rw [show x8.toInt = i.toInt + 1 by omega]; exact F.st (by omega) (by omega))
        · --
          refine aw_step (f1 := (45, [some (.ref 21), some (.int z), some (.int i), some (.int x5)], [(.int z)])) (w1 := w) rfl rfl ?_
          refine s_i (pc1 := 47) (ls1 := [some (.ref 21), some (.int z), some (.int i), some (.int x5)]) (st1 := [(.int z)]) rfl rfl fun x9 e10 => ?_
          have e10t : x9.toInt = -6 := by rw [e10]; rfl
          refine s_ic 65 50 rfl rfl rfl (fun (h11 : z.toInt = x9.toInt) => ?_) (fun (h11 : ¬ (z.toInt = x9.toInt)) => ?_)
          · --
            refine aw_step (f1 := (66, [some (.ref 21), some (.int z), some (.int i), some (.int x5)], [(.int i)])) (w1 := w) rfl rfl ?_
            refine aw_step (f1 := (67, [some (.ref 21), some (.int i), some (.int i), some (.int x5)], [])) (w1 := w) rfl rfl ?_
            refine aw_step (f1 := (70, [some (.ref 21), some (.int i), some (.int (i + Int32.ofInt 1)), some (.int x5)], [])) (w1 := w) rfl rfl ?_
            obtain ⟨x12, x12e⟩ : ∃ z, z = (i + Int32.ofInt 1) := ⟨_, rfl⟩
            have x12t : x12.toInt = i.toInt + (1) := by rw [x12e]; exact n_add (y := Int32.ofInt (1)) (by show _ ≤ _ + (1 : Int); omega) (by show _ + (1 : Int) ≤ _; omega)
            rw [← x12e]
            refine aw_step (f1 := (5, [some (.ref 21), some (.int i), some (.int x12), some (.int x5)], [])) (w1 := w) rfl rfl ?_
            exact ih i x12 _ (by omega) (by omega) (by omega) (by rw [show x12.toInt = i.toInt + 1 by omega]; exact F.st (by omega) (by omega))
          · --
            refine aw_step (f1 := (51, [some (.ref 21), some (.int z), some (.int i), some (.int x5)], [(.ref 21)])) (w1 := w) rfl rfl ?_
            refine s_gr 22 J 54 rfl rfl rfl rfl rfl rfl ?_
            refine aw_step (f1 := (55, [some (.ref 21), some (.int z), some (.int i), some (.int x5)], [(.int i), (.ref 22)])) (w1 := w) rfl rfl ?_
            refine s_ia J 56 rfl rfl rfl rfl (by omega) (by omega) fun x13 x13a x13b x13f => ?_
            have x13v : x13.toInt = rI w 22 i.toInt.toNat := by rw [← rI_of x13f]
            refine aw_step (f1 := (57, [some (.ref 21), some (.int z), some (.int i), some (.int x5)], [(.ref 21), (.int x13)])) (w1 := w) rfl rfl ?_
            refine s_gr 22 J 60 rfl rfl rfl rfl rfl rfl ?_
            refine aw_step (f1 := (61, [some (.ref 21), some (.int z), some (.int i), some (.int x5)], [(.int z), (.ref 22), (.int x13)])) (w1 := w) rfl rfl ?_
            refine s_ia J 62 rfl rfl rfl rfl (by omega) (by omega) fun x14 x14a x14b x14f => ?_
            have x14v : x14.toInt = rI w 22 z.toInt.toNat := by rw [← rI_of x14f]
            refine s_ic 67 65 rfl rfl rfl (fun (h15 : x14.toInt ≤ x13.toInt) => ?_) (fun (h15 : ¬ (x14.toInt ≤ x13.toInt)) => ?_)
            · --
              refine aw_step (f1 := (70, [some (.ref 21), some (.int z), some (.int (i + Int32.ofInt 1)), some (.int x5)], [])) (w1 := w) rfl rfl ?_
              obtain ⟨x16, x16e⟩ : ∃ z, z = (i + Int32.ofInt 1) := ⟨_, rfl⟩
              have x16t : x16.toInt = i.toInt + (1) := by rw [x16e]; exact n_add (y := Int32.ofInt (1)) (by show _ ≤ _ + (1 : Int); omega) (by show _ + (1 : Int) ≤ _; omega)
              rw [← x16e]
              refine aw_step (f1 := (5, [some (.ref 21), some (.int z), some (.int x16), some (.int x5)], [])) (w1 := w) rfl rfl ?_
              exact ih z x16 _ (by omega) (by omega) (by omega) (by rw [show x16.toInt = i.toInt + 1 by omega]; exact F.st (by omega) (by omega))
            · --
              refine aw_step (f1 := (66, [some (.ref 21), some (.int z), some (.int i), some (.int x5)], [(.int i)])) (w1 := w) rfl rfl ?_
              refine aw_step (f1 := (67, [some (.ref 21), some (.int i), some (.int i), some (.int x5)], [])) (w1 := w) rfl rfl ?_
              refine aw_step (f1 := (70, [some (.ref 21), some (.int i), some (.int (i + Int32.ofInt 1)), some (.int x5)], [])) (w1 := w) rfl rfl ?_
              obtain ⟨x17, x17e⟩ : ∃ z, z = (i + Int32.ofInt 1) := ⟨_, rfl⟩
              have x17t : x17.toInt = i.toInt + (1) := by rw [x17e]; exact n_add (y := Int32.ofInt (1)) (by show _ ≤ _ + (1 : Int); omega) (by show _ + (1 : Int) ≤ _; omega)
              rw [← x17e]
              refine aw_step (f1 := (5, [some (.ref 21), some (.int i), some (.int x17), some (.int x5)], [])) (w1 := w) rfl rfl ?_
              exact ih i x17 _ (by omega) (by omega) (by omega) (by rw [show x17.toInt = i.toInt + 1 by omega]; exact F.st (by omega) (by omega))
      · --
        refine aw_step (f1 := (24, [some (.ref 21), some (.int z), some (.int i), o3], [(.ref 21)])) (w1 := w) rfl rfl ?_
        refine s_gr 22 J 27 rfl rfl rfl rfl rfl rfl ?_
        refine aw_step (f1 := (28, [some (.ref 21), some (.int z), some (.int i), o3], [(.int i), (.ref 22)])) (w1 := w) rfl rfl ?_
        refine s_ia J 29 rfl rfl rfl rfl (by omega) (by omega) fun x18 x18a x18b x18f => ?_
        have x18v : x18.toInt = rI w 22 i.toInt.toNat := by rw [← rI_of x18f]
        refine s_i (pc1 := 31) (ls1 := [some (.ref 21), some (.int z), some (.int i), o3]) (st1 := [(.int x18)]) rfl rfl fun x19 e20 => ?_
        have e20t : x19.toInt = 1000000 := by rw [e20]; rfl
        refine s_ic 38 34 rfl rfl rfl (fun (h21 : x18.toInt = x19.toInt) => ?_) (fun (h21 : ¬ (x18.toInt = x19.toInt)) => ?_)
        · --
          refine s_i (pc1 := 39) (ls1 := [some (.ref 21), some (.int z), some (.int i), o3]) (st1 := []) rfl rfl fun x22 e23 => ?_
          have e23t : x22.toInt = 0 := by rw [e23]; rfl
          refine aw_step (f1 := (40, [some (.ref 21), some (.int z), some (.int i), some (.int x22)], [])) (w1 := w) rfl rfl ?_
          refine aw_step (f1 := (41, [some (.ref 21), some (.int z), some (.int i), some (.int x22)], [(.int x22)])) (w1 := w) rfl rfl ?_
          refine s_if 67 44 rfl rfl rfl (fun (h24 : x22.toInt = 0) => ?_) (fun (h24 : ¬ (x22.toInt = 0)) => ?_)
          · --
            refine aw_step (f1 := (70, [some (.ref 21), some (.int z), some (.int (i + Int32.ofInt 1)), some (.int x22)], [])) (w1 := w) rfl rfl ?_
            obtain ⟨x25, x25e⟩ : ∃ z, z = (i + Int32.ofInt 1) := ⟨_, rfl⟩
            have x25t : x25.toInt = i.toInt + (1) := by rw [x25e]; exact n_add (y := Int32.ofInt (1)) (by show _ ≤ _ + (1 : Int); omega) (by show _ + (1 : Int) ≤ _; omega)
            rw [← x25e]
            refine aw_step (f1 := (5, [some (.ref 21), some (.int z), some (.int x25), some (.int x22)], [])) (w1 := w) rfl rfl ?_
            exact ih z x25 _ (by omega) (by omega) (by omega) (by rw [show x25.toInt = i.toInt + 1 by omega]; exact F.st (by omega) (by omega))
          · --
            refine aw_step (f1 := (45, [some (.ref 21), some (.int z), some (.int i), some (.int x22)], [(.int z)])) (w1 := w) rfl rfl ?_
            refine s_i (pc1 := 47) (ls1 := [some (.ref 21), some (.int z), some (.int i), some (.int x22)]) (st1 := [(.int z)]) rfl rfl fun x26 e27 => ?_
            have e27t : x26.toInt = -6 := by rw [e27]; rfl
            refine s_ic 65 50 rfl rfl rfl (fun (h28 : z.toInt = x26.toInt) => ?_) (fun (h28 : ¬ (z.toInt = x26.toInt)) => ?_)
            · --
              refine aw_step (f1 := (66, [some (.ref 21), some (.int z), some (.int i), some (.int x22)], [(.int i)])) (w1 := w) rfl rfl ?_
              refine aw_step (f1 := (67, [some (.ref 21), some (.int i), some (.int i), some (.int x22)], [])) (w1 := w) rfl rfl ?_
              refine aw_step (f1 := (70, [some (.ref 21), some (.int i), some (.int (i + Int32.ofInt 1)), some (.int x22)], [])) (w1 := w) rfl rfl ?_
              obtain ⟨x29, x29e⟩ : ∃ z, z = (i + Int32.ofInt 1) := ⟨_, rfl⟩
              have x29t : x29.toInt = i.toInt + (1) := by rw [x29e]; exact n_add (y := Int32.ofInt (1)) (by show _ ≤ _ + (1 : Int); omega) (by show _ + (1 : Int) ≤ _; omega)
              rw [← x29e]
              refine aw_step (f1 := (5, [some (.ref 21), some (.int i), some (.int x29), some (.int x22)], [])) (w1 := w) rfl rfl ?_
              exact ih i x29 _ (by omega) (by omega) (by omega) (by rw [show x29.toInt = i.toInt + 1 by omega]; exact F.st (by omega) (by omega))
            · --
              refine aw_step (f1 := (51, [some (.ref 21), some (.int z), some (.int i), some (.int x22)], [(.ref 21)])) (w1 := w) rfl rfl ?_
              refine s_gr 22 J 54 rfl rfl rfl rfl rfl rfl ?_
              refine aw_step (f1 := (55, [some (.ref 21), some (.int z), some (.int i), some (.int x22)], [(.int i), (.ref 22)])) (w1 := w) rfl rfl ?_
              refine s_ia J 56 rfl rfl rfl rfl (by omega) (by omega) fun x30 x30a x30b x30f => ?_
              have x30v : x30.toInt = rI w 22 i.toInt.toNat := by rw [← rI_of x30f]
              refine aw_step (f1 := (57, [some (.ref 21), some (.int z), some (.int i), some (.int x22)], [(.ref 21), (.int x30)])) (w1 := w) rfl rfl ?_
              refine s_gr 22 J 60 rfl rfl rfl rfl rfl rfl ?_
              refine aw_step (f1 := (61, [some (.ref 21), some (.int z), some (.int i), some (.int x22)], [(.int z), (.ref 22), (.int x30)])) (w1 := w) rfl rfl ?_
              refine s_ia J 62 rfl rfl rfl rfl (by omega) (by omega) fun x31 x31a x31b x31f => ?_
              have x31v : x31.toInt = rI w 22 z.toInt.toNat := by rw [← rI_of x31f]
              refine s_ic 67 65 rfl rfl rfl (fun (h32 : x31.toInt ≤ x30.toInt) => ?_) (fun (h32 : ¬ (x31.toInt ≤ x30.toInt)) => ?_)
              · --
                refine aw_step (f1 := (70, [some (.ref 21), some (.int z), some (.int (i + Int32.ofInt 1)), some (.int x22)], [])) (w1 := w) rfl rfl ?_
                obtain ⟨x33, x33e⟩ : ∃ z, z = (i + Int32.ofInt 1) := ⟨_, rfl⟩
                have x33t : x33.toInt = i.toInt + (1) := by rw [x33e]; exact n_add (y := Int32.ofInt (1)) (by show _ ≤ _ + (1 : Int); omega) (by show _ + (1 : Int) ≤ _; omega)
                rw [← x33e]
                refine aw_step (f1 := (5, [some (.ref 21), some (.int z), some (.int x33), some (.int x22)], [])) (w1 := w) rfl rfl ?_
                exact ih z x33 _ (by omega) (by omega) (by omega) (by rw [show x33.toInt = i.toInt + 1 by omega]; exact F.st (by omega) (by omega))
              · --
                refine aw_step (f1 := (66, [some (.ref 21), some (.int z), some (.int i), some (.int x22)], [(.int i)])) (w1 := w) rfl rfl ?_
                refine aw_step (f1 := (67, [some (.ref 21), some (.int i), some (.int i), some (.int x22)], [])) (w1 := w) rfl rfl ?_
                refine aw_step (f1 := (70, [some (.ref 21), some (.int i), some (.int (i + Int32.ofInt 1)), some (.int x22)], [])) (w1 := w) rfl rfl ?_
                obtain ⟨x34, x34e⟩ : ∃ z, z = (i + Int32.ofInt 1) := ⟨_, rfl⟩
                have x34t : x34.toInt = i.toInt + (1) := by rw [x34e]; exact n_add (y := Int32.ofInt (1)) (by show _ ≤ _ + (1 : Int); omega) (by show _ + (1 : Int) ≤ _; omega)
                rw [← x34e]
                refine aw_step (f1 := (5, [some (.ref 21), some (.int i), some (.int x34), some (.int x22)], [])) (w1 := w) rfl rfl ?_
                exact ih i x34 _ (by omega) (by omega) (by omega) (by rw [show x34.toInt = i.toInt + 1 by omega]; exact F.st (by omega) (by omega))
        · --
          refine s_i (pc1 := 35) (ls1 := [some (.ref 21), some (.int z), some (.int i), o3]) (st1 := []) rfl rfl fun x35 e36 => ?_
          have e36t : x35.toInt = 1 := by rw [e36]; rfl
          refine aw_step (f1 := (39, [some (.ref 21), some (.int z), some (.int i), o3], [(.int x35)])) (w1 := w) rfl rfl ?_
          refine aw_step (f1 := (40, [some (.ref 21), some (.int z), some (.int i), some (.int x35)], [])) (w1 := w) rfl rfl ?_
          refine aw_step (f1 := (41, [some (.ref 21), some (.int z), some (.int i), some (.int x35)], [(.int x35)])) (w1 := w) rfl rfl ?_
          refine s_if 67 44 rfl rfl rfl (fun (h37 : x35.toInt = 0) => ?_) (fun (h37 : ¬ (x35.toInt = 0)) => ?_)
          · --
            refine aw_step (f1 := (70, [some (.ref 21), some (.int z), some (.int (i + Int32.ofInt 1)), some (.int x35)], [])) (w1 := w) rfl rfl ?_
            obtain ⟨x38, x38e⟩ : ∃ z, z = (i + Int32.ofInt 1) := ⟨_, rfl⟩
            have x38t : x38.toInt = i.toInt + (1) := by rw [x38e]; exact n_add (y := Int32.ofInt (1)) (by show _ ≤ _ + (1 : Int); omega) (by show _ + (1 : Int) ≤ _; omega)
            rw [← x38e]
            refine aw_step (f1 := (5, [some (.ref 21), some (.int z), some (.int x38), some (.int x35)], [])) (w1 := w) rfl rfl ?_
            exact ih z x38 _ (by omega) (by omega) (by omega) (by rw [show x38.toInt = i.toInt + 1 by omega]; exact F.st (by omega) (by omega))
          · --
            refine aw_step (f1 := (45, [some (.ref 21), some (.int z), some (.int i), some (.int x35)], [(.int z)])) (w1 := w) rfl rfl ?_
            refine s_i (pc1 := 47) (ls1 := [some (.ref 21), some (.int z), some (.int i), some (.int x35)]) (st1 := [(.int z)]) rfl rfl fun x39 e40 => ?_
            have e40t : x39.toInt = -6 := by rw [e40]; rfl
            refine s_ic 65 50 rfl rfl rfl (fun (h41 : z.toInt = x39.toInt) => ?_) (fun (h41 : ¬ (z.toInt = x39.toInt)) => ?_)
            · --
              refine aw_step (f1 := (66, [some (.ref 21), some (.int z), some (.int i), some (.int x35)], [(.int i)])) (w1 := w) rfl rfl ?_
              refine aw_step (f1 := (67, [some (.ref 21), some (.int i), some (.int i), some (.int x35)], [])) (w1 := w) rfl rfl ?_
              refine aw_step (f1 := (70, [some (.ref 21), some (.int i), some (.int (i + Int32.ofInt 1)), some (.int x35)], [])) (w1 := w) rfl rfl ?_
              obtain ⟨x42, x42e⟩ : ∃ z, z = (i + Int32.ofInt 1) := ⟨_, rfl⟩
              have x42t : x42.toInt = i.toInt + (1) := by rw [x42e]; exact n_add (y := Int32.ofInt (1)) (by show _ ≤ _ + (1 : Int); omega) (by show _ + (1 : Int) ≤ _; omega)
              rw [← x42e]
              refine aw_step (f1 := (5, [some (.ref 21), some (.int i), some (.int x42), some (.int x35)], [])) (w1 := w) rfl rfl ?_
              exact ih i x42 _ (by omega) (by omega) (by omega) (by rw [show x42.toInt = i.toInt + 1 by omega]; exact F.st (by omega) (by omega))
            · --
              refine aw_step (f1 := (51, [some (.ref 21), some (.int z), some (.int i), some (.int x35)], [(.ref 21)])) (w1 := w) rfl rfl ?_
              refine s_gr 22 J 54 rfl rfl rfl rfl rfl rfl ?_
              refine aw_step (f1 := (55, [some (.ref 21), some (.int z), some (.int i), some (.int x35)], [(.int i), (.ref 22)])) (w1 := w) rfl rfl ?_
              refine s_ia J 56 rfl rfl rfl rfl (by omega) (by omega) fun x43 x43a x43b x43f => ?_
              have x43v : x43.toInt = rI w 22 i.toInt.toNat := by rw [← rI_of x43f]
              refine aw_step (f1 := (57, [some (.ref 21), some (.int z), some (.int i), some (.int x35)], [(.ref 21), (.int x43)])) (w1 := w) rfl rfl ?_
              refine s_gr 22 J 60 rfl rfl rfl rfl rfl rfl ?_
              refine aw_step (f1 := (61, [some (.ref 21), some (.int z), some (.int i), some (.int x35)], [(.int z), (.ref 22), (.int x43)])) (w1 := w) rfl rfl ?_
              refine s_ia J 62 rfl rfl rfl rfl (by omega) (by omega) fun x44 x44a x44b x44f => ?_
              have x44v : x44.toInt = rI w 22 z.toInt.toNat := by rw [← rI_of x44f]
              refine s_ic 67 65 rfl rfl rfl (fun (h45 : x44.toInt ≤ x43.toInt) => ?_) (fun (h45 : ¬ (x44.toInt ≤ x43.toInt)) => ?_)
              · --
                refine aw_step (f1 := (70, [some (.ref 21), some (.int z), some (.int (i + Int32.ofInt 1)), some (.int x35)], [])) (w1 := w) rfl rfl ?_
                obtain ⟨x46, x46e⟩ : ∃ z, z = (i + Int32.ofInt 1) := ⟨_, rfl⟩
                have x46t : x46.toInt = i.toInt + (1) := by rw [x46e]; exact n_add (y := Int32.ofInt (1)) (by show _ ≤ _ + (1 : Int); omega) (by show _ + (1 : Int) ≤ _; omega)
                rw [← x46e]
                refine aw_step (f1 := (5, [some (.ref 21), some (.int z), some (.int x46), some (.int x35)], [])) (w1 := w) rfl rfl ?_
                exact ih z x46 _ (by omega) (by omega) (by omega) (by rw [show x46.toInt = i.toInt + 1 by omega]; exact F.st (by omega) (by omega))
              · --
                refine aw_step (f1 := (66, [some (.ref 21), some (.int z), some (.int i), some (.int x35)], [(.int i)])) (w1 := w) rfl rfl ?_
                refine aw_step (f1 := (67, [some (.ref 21), some (.int i), some (.int i), some (.int x35)], [])) (w1 := w) rfl rfl ?_
                refine aw_step (f1 := (70, [some (.ref 21), some (.int i), some (.int (i + Int32.ofInt 1)), some (.int x35)], [])) (w1 := w) rfl rfl ?_
                obtain ⟨x47, x47e⟩ : ∃ z, z = (i + Int32.ofInt 1) := ⟨_, rfl⟩
                have x47t : x47.toInt = i.toInt + (1) := by rw [x47e]; exact n_add (y := Int32.ofInt (1)) (by show _ ≤ _ + (1 : Int); omega) (by show _ + (1 : Int) ≤ _; omega)
                rw [← x47e]
                refine aw_step (f1 := (5, [some (.ref 21), some (.int i), some (.int x47), some (.int x35)], [])) (w1 := w) rfl rfl ?_
                exact ih i x47 _ (by omega) (by omega) (by omega) (by rw [show x47.toInt = i.toInt + 1 by omega]; exact F.st (by omega) (by omega))
theorem e_nearest {d : Nat} {w : am_W} (I : ab_inv ab_TT ab_sets w) : aw none (d + 1) 52 (fun r w1 => w = w1 ∧ ∃ z : Int32, r = some (.int z) ∧ nrP (rI w 22) (rI w 23) 72 z.toInt) (0, am_entry 52 [.ref 21], []) w := by
  have J : ab_J ab_TT ab_sets ab_WR w w := ⟨I, ab_fr.rf⟩
  show aw none (d + 1) 52 _ (0, [some (.ref 21), none, none, none], []) w
  refine s_i (pc1 := 2) (ls1 := [some (.ref 21), none, none, none]) (st1 := []) rfl rfl fun x1 e2 => ?_
  have e2t : x1.toInt = -6 := by rw [e2]; rfl
  refine aw_step (f1 := (3, [some (.ref 21), some (.int x1), none, none], [])) (w1 := w) rfl rfl ?_
  refine s_i (pc1 := 4) (ls1 := [some (.ref 21), some (.int x1), none, none]) (st1 := []) rfl rfl fun x3 e4 => ?_
  have e4t : x3.toInt = 0 := by rw [e4]; rfl
  refine aw_step (f1 := (5, [some (.ref 21), some (.int x1), some (.int x3), none], [])) (w1 := w) rfl rfl ?_
  exact e_nrL J 73 x1 x3 _ (by omega) (by omega) (by omega) (by rw [show x3.toInt = 0 by omega]; exact Or.inl ⟨by omega, fun t ht => by omega⟩)
theorem e_fill22L {d : Nat} {w00 : am_W} (v m : Int32) (hm : m.toInt = 72) : ∀ (k : Nat) (w : am_W) (i : Int32), (72 - i.toInt).toNat < k → 0 ≤ i.toInt → i.toInt ≤ 72 → ab_J ab_TT ab_sets ab_WR w00 w → only [22] w00 w → (∀ j : Nat, (j : Int) < i.toInt → rI w 22 j = v.toInt) → aw none d 192 (fun r w1 => r = none ∧ ab_J ab_TT ab_sets ab_WR w00 w1 ∧ only [22] w00 w1 ∧ ∀ j : Nat, j < 72 → rI w1 22 j = v.toInt) (5, [some (.ref 22), some (.int v), some (.int i), some (.int m)], []) w := by
  have va := ab_any32 v
  unfold ab_lo32 ab_hi32 at va
  intro k
  induction k with
  | zero => intro w i p; omega
  | succ k ih =>
    intro w i p1 p2 p3 J O F
    refine aw_step (f1 := (6, [some (.ref 22), some (.int v), some (.int i), some (.int m)], [(.int i)])) (w1 := w) rfl rfl ?_
    refine aw_step (f1 := (7, [some (.ref 22), some (.int v), some (.int i), some (.int m)], [(.int m), (.int i)])) (w1 := w) rfl rfl ?_
    refine s_ic 20 10 rfl rfl rfl (fun (h1 : m.toInt ≤ i.toInt) => ?_) (fun (h1 : ¬ (m.toInt ≤ i.toInt)) => ?_)
    · --
      refine aw_ret (v := none) rfl rfl ?_
      exact ⟨rfl, J, O, fun j hj => F j (by omega)⟩
    · --
      refine aw_step (f1 := (11, [some (.ref 22), some (.int v), some (.int i), some (.int m)], [(.ref 22)])) (w1 := w) rfl rfl ?_
      refine aw_step (f1 := (12, [some (.ref 22), some (.int v), some (.int i), some (.int m)], [(.int i), (.ref 22)])) (w1 := w) rfl rfl ?_
      refine aw_step (f1 := (13, [some (.ref 22), some (.int v), some (.int i), some (.int m)], [(.int v), (.int i), (.ref 22)])) (w1 := w) rfl rfl ?_
      refine s_is J 14 rfl rfl rfl rfl (by omega) (by omega) (by omega) (by omega) fun w2 J3 w2e => ?_
      have w2f := rI_st J.1 (p := 22) (j := i.toInt.toNat) rfl (by omega) w2e
      refine aw_step (f1 := (17, [some (.ref 22), some (.int v), some (.int (i + Int32.ofInt 1)), some (.int m)], [])) (w1 := w2) rfl rfl ?_
      obtain ⟨x4, x4e⟩ : ∃ z, z = (i + Int32.ofInt 1) := ⟨_, rfl⟩
      have x4t : x4.toInt = i.toInt + (1) := by rw [x4e]; exact n_add (y := Int32.ofInt (1)) (by show _ ≤ _ + (1 : Int); omega) (by show _ + (1 : Int) ≤ _; omega)
      rw [← x4e]
      refine aw_step (f1 := (5, [some (.ref 22), some (.int v), some (.int x4), some (.int m)], [])) (w1 := w2) rfl rfl ?_
      refine ih w2 x4 (by omega) (by omega) (by omega) J3 (O.trans w2f.1) (fun j hj => ?_)
      by_cases q : j = i.toInt.toNat
      · rw [q]; exact w2f.2.1
      · rw [w2f.2.2 j q]; exact F j (by omega)
theorem e_fill22 {d : Nat} {w : am_W} (v : Int32) (I : ab_inv ab_TT ab_sets w) : aw none d 192 (fun r w1 => r = none ∧ ab_J ab_TT ab_sets ab_WR w w1 ∧ only [22] w w1 ∧ ∀ j : Nat, j < 72 → rI w1 22 j = v.toInt) (0, am_entry 192 [.ref 22, .int v], []) w := by
  have J : ab_J ab_TT ab_sets ab_WR w w := ⟨I, ab_fr.rf⟩
  show aw none d 192 _ (0, [some (.ref 22), some (.int v), none, none], []) w
  refine s_i (pc1 := 1) (ls1 := [some (.ref 22), some (.int v), none, none]) (st1 := []) rfl rfl fun x1 e2 => ?_
  have e2t : x1.toInt = 0 := by rw [e2]; rfl
  refine aw_step (f1 := (2, [some (.ref 22), some (.int v), some (.int x1), none], [])) (w1 := w) rfl rfl ?_
  refine aw_step (f1 := (3, [some (.ref 22), some (.int v), some (.int x1), none], [(.ref 22)])) (w1 := w) rfl rfl ?_
  refine s_al J 4 rfl rfl rfl rfl (by decide) fun x3 x3t => ?_
  refine aw_step (f1 := (5, [some (.ref 22), some (.int v), some (.int x1), some (.int x3)], [])) (w1 := w) rfl rfl ?_
  exact e_fill22L v x3 (by omega) 73 w x1 (by omega) (by omega) (by omega) J only.rf (fun j hj => by omega)
theorem e_fill23L {d : Nat} {w00 : am_W} (v m : Int32) (hm : m.toInt = 72) : ∀ (k : Nat) (w : am_W) (i : Int32), (72 - i.toInt).toNat < k → 0 ≤ i.toInt → i.toInt ≤ 72 → ab_J ab_TT ab_sets ab_WR w00 w → only [23] w00 w → (∀ j : Nat, (j : Int) < i.toInt → rI w 23 j = v.toInt) → aw none d 192 (fun r w1 => r = none ∧ ab_J ab_TT ab_sets ab_WR w00 w1 ∧ only [23] w00 w1 ∧ ∀ j : Nat, j < 72 → rI w1 23 j = v.toInt) (5, [some (.ref 23), some (.int v), some (.int i), some (.int m)], []) w := by
  have va := ab_any32 v
  unfold ab_lo32 ab_hi32 at va
  intro k
  induction k with
  | zero => intro w i p; omega
  | succ k ih =>
    intro w i p1 p2 p3 J O F
    refine aw_step (f1 := (6, [some (.ref 23), some (.int v), some (.int i), some (.int m)], [(.int i)])) (w1 := w) rfl rfl ?_
    refine aw_step (f1 := (7, [some (.ref 23), some (.int v), some (.int i), some (.int m)], [(.int m), (.int i)])) (w1 := w) rfl rfl ?_
    refine s_ic 20 10 rfl rfl rfl (fun (h1 : m.toInt ≤ i.toInt) => ?_) (fun (h1 : ¬ (m.toInt ≤ i.toInt)) => ?_)
    · --
      refine aw_ret (v := none) rfl rfl ?_
      exact ⟨rfl, J, O, fun j hj => F j (by omega)⟩
    · --
      refine aw_step (f1 := (11, [some (.ref 23), some (.int v), some (.int i), some (.int m)], [(.ref 23)])) (w1 := w) rfl rfl ?_
      refine aw_step (f1 := (12, [some (.ref 23), some (.int v), some (.int i), some (.int m)], [(.int i), (.ref 23)])) (w1 := w) rfl rfl ?_
      refine aw_step (f1 := (13, [some (.ref 23), some (.int v), some (.int i), some (.int m)], [(.int v), (.int i), (.ref 23)])) (w1 := w) rfl rfl ?_
      refine s_is J 14 rfl rfl rfl rfl (by omega) (by omega) (by omega) (by omega) fun w2 J3 w2e => ?_
      have w2f := rI_st J.1 (p := 23) (j := i.toInt.toNat) rfl (by omega) w2e
      refine aw_step (f1 := (17, [some (.ref 23), some (.int v), some (.int (i + Int32.ofInt 1)), some (.int m)], [])) (w1 := w2) rfl rfl ?_
      obtain ⟨x4, x4e⟩ : ∃ z, z = (i + Int32.ofInt 1) := ⟨_, rfl⟩
      have x4t : x4.toInt = i.toInt + (1) := by rw [x4e]; exact n_add (y := Int32.ofInt (1)) (by show _ ≤ _ + (1 : Int); omega) (by show _ + (1 : Int) ≤ _; omega)
      rw [← x4e]
      refine aw_step (f1 := (5, [some (.ref 23), some (.int v), some (.int x4), some (.int m)], [])) (w1 := w2) rfl rfl ?_
      refine ih w2 x4 (by omega) (by omega) (by omega) J3 (O.trans w2f.1) (fun j hj => ?_)
      by_cases q : j = i.toInt.toNat
      · rw [q]; exact w2f.2.1
      · rw [w2f.2.2 j q]; exact F j (by omega)
theorem e_fill23 {d : Nat} {w : am_W} (v : Int32) (I : ab_inv ab_TT ab_sets w) : aw none d 192 (fun r w1 => r = none ∧ ab_J ab_TT ab_sets ab_WR w w1 ∧ only [23] w w1 ∧ ∀ j : Nat, j < 72 → rI w1 23 j = v.toInt) (0, am_entry 192 [.ref 23, .int v], []) w := by
  have J : ab_J ab_TT ab_sets ab_WR w w := ⟨I, ab_fr.rf⟩
  show aw none d 192 _ (0, [some (.ref 23), some (.int v), none, none], []) w
  refine s_i (pc1 := 1) (ls1 := [some (.ref 23), some (.int v), none, none]) (st1 := []) rfl rfl fun x1 e2 => ?_
  have e2t : x1.toInt = 0 := by rw [e2]; rfl
  refine aw_step (f1 := (2, [some (.ref 23), some (.int v), some (.int x1), none], [])) (w1 := w) rfl rfl ?_
  refine aw_step (f1 := (3, [some (.ref 23), some (.int v), some (.int x1), none], [(.ref 23)])) (w1 := w) rfl rfl ?_
  refine s_al J 4 rfl rfl rfl rfl (by decide) fun x3 x3t => ?_
  refine aw_step (f1 := (5, [some (.ref 23), some (.int v), some (.int x1), some (.int x3)], [])) (w1 := w) rfl rfl ?_
  exact e_fill23L v x3 (by omega) 73 w x1 (by omega) (by omega) (by omega) J only.rf (fun j hj => by omega)
theorem sm_up {q q' : Nat → Int} {z : Nat} (h1 : q' z = q z + 1) (h2 : ∀ j, j ≠ z → q' j = q j) : ∀ {n : Nat}, (n ≤ z → sm q' n = sm q n) ∧ (z < n → sm q' n = sm q n + 1)
  | 0 => ⟨fun _ => rfl, fun h => by omega⟩
  | n + 1 => by
    obtain ⟨a, b⟩ := sm_up h1 h2 (n := n)
    unfold sm
    constructor
    · intro h; rw [a (by omega), h2 n (by omega)]
    · intro h
      by_cases e : n = z
      · subst e; rw [a (Nat.le_refl _), h1]; omega
      · rw [b (by omega), h2 n e]; omega
theorem sm_1 {q : Nat → Int} : ∀ {n : Nat}, (∀ j, j < n → q j ≤ 1) → sm q n ≤ n ∧ (sm q n = n → ∀ j, j < n → q j = 1)
  | 0, _ => ⟨Int.le_refl _, fun _ j hj => by omega⟩
  | n + 1, h => by
    obtain ⟨a, b⟩ := sm_1 (n := n) (fun j hj => h j (by omega))
    have c := h n (by omega)
    unfold sm
    refine ⟨by omega, fun e j hj => ?_⟩
    by_cases u : j = n
    · subst u; omega
    · exact b (by omega) j (by omega)
noncomputable def djI (E : Nat → Nat → Int → Prop) (f : Nat) (r q : Nat → Int) : Prop := r f ≤ 0 ∧ (∀ t, t < 72 → r t = 1000000 ∨ (r t < 1000000 ∧ ∃ n, wk E f n t (r t))) ∧ (∀ t, t < 72 → q t = 0 ∨ (q t = 1 ∧ r t < 1000000 ∧ ∀ u e, E t u e → r u ≤ r t + e)) ∧ ∀ s t, s < 72 → t < 72 → q s = 1 → q t = 0 → r s ≤ r t
theorem djI.b {E : Nat → Nat → Int → Prop} {f : Nat} {r q : Nat → Int} (h : djI E f r q) (hE : ∀ s t e, E s t e → t < 72 ∧ 0 ≤ e ∧ e ≤ 1000) {t : Nat} (ht : t < 72) : 0 ≤ r t ∧ r t ≤ 1000000 := by
  rcases h.2.1 t ht with a | ⟨a, n, b⟩
  · omega
  · have := wk_b hE b; omega
theorem djI.st {E : Nat → Nat → Int → Prop} {f z : Nat} {r q r' q' : Nat → Int} {X : Nat → Int → Prop} (h : djI E f r q) (hE : ∀ s t e, E s t e → t < 72 ∧ 0 ≤ e ∧ e ≤ 1000) (hz : z < 72) (z0 : q z = 0) (zn : r z ≠ 1000000) (zm : ∀ t, t < 72 → q t = 0 → r t ≠ 1000000 → r z ≤ r t) (hx : ∀ t e, X t e ↔ E z t e) (g : ofI X X z r r') (q1 : q' z = 1) (q2 : ∀ j, j ≠ z → q' j = q j) : djI E f r' q' := by
  obtain ⟨h1, h2, h3, h4⟩ := h
  obtain ⟨g1, g2, g3⟩ := g
  have zb : r z < 1000000 := by
    rcases h2 z hz with a | a
    · exact absurd a zn
    · exact a.1
  have le : ∀ t, r' t ≤ r t := fun t => by
    rcases g2 t with a | a
    · omega
    · exact a.1
  have kp : ∀ s, s < 72 → q s = 1 → r' s = r s := fun s hs qs => by
    have a := h4 s z hs hz qs z0
    rcases g2 s with b | ⟨b, e, e0, -, e1⟩
    · exact b
    · omega
  have ge : ∀ t, t < 72 → q t = 0 → r z ≤ r' t := fun t ht qt => by
    rcases g2 t with b | ⟨b, e, e0, -, e1⟩
    · rw [b]
      by_cases u : r t = 1000000
      · omega
      · exact zm t ht qt u
    · omega
  refine ⟨by have := le f; omega, fun t ht => ?_, fun t ht => ?_, fun s t hs ht qs qt => ?_⟩
  · rcases g2 t with b | ⟨b, e, e0, e1, e2⟩
    · rw [b]; exact h2 t ht
    · have tb : r t ≤ 1000000 := by
        rcases h2 t ht with a | a
        · omega
        · have := a.1; omega
      by_cases u : r' t = 1000000
      · exact Or.inl u
      · refine Or.inr ⟨by omega, ?_⟩
        rcases h2 z hz with a | ⟨-, n, a⟩
        · exact absurd a zn
        · exact ⟨n + 1, z, r z, e, a, (hx t e).mp e1, e2⟩
  · by_cases u : t = z
    · subst u
      refine Or.inr ⟨q1, by omega, fun u e he => ?_⟩
      rw [g1]
      exact g3 u e ((hx u e).mpr he)
    · rw [q2 t u]
      rcases h3 t ht with a | ⟨a, b, c⟩
      · exact Or.inl a
      · refine Or.inr ⟨a, by rw [kp t ht a]; exact b, fun v e he => ?_⟩
        rw [kp t ht a]
        have := c v e he
        have := le v
        omega
  · have tz : t ≠ z := fun e => by rw [e, q1] at qt; omega
    rw [q2 t tz] at qt
    have a := ge t ht qt
    by_cases u : s = z
    · subst u; rw [g1]; exact a
    · rw [q2 s u] at qs
      have b := h4 s z hs hz qs z0
      rw [kp s hs qs]
      omega
theorem djI.end_ {E : Nat → Nat → Int → Prop} {f : Nat} {r q : Nat → Int} (h : djI E f r q) (hf : f < 72) (hE : ∀ s t e, E s t e → t < 72 ∧ 0 ≤ e ∧ e ≤ 1000) (al : ∀ t, t < 72 → q t ≠ 0 ∨ r t = 1000000) {t : Nat} (ht : t < 72) : (r t = 1000000 ∧ nvT E f t) ∨ (r t < 1000000 ∧ mnT E f t (r t)) := by
  obtain ⟨h1, h2, h3, h4⟩ := h
  refine fxT (by decide) hf hE h1 h2 (fun s t e hs hb he => ?_) ht
  rcases al s hs with a | a
  · rcases h3 s hs with b | ⟨b, c, d⟩
    · exact absurd b a
    · exact d t e he
  · omega
theorem EO_ET {V : Nat → Int} {ps oh st ch L0 L1 : Int} {sd0 c0 z : Nat} (h : sd0 < 2) (hz : z = 36 * sd0 + c0) (hc : c0 < 36 ∧ (c0 : Int) < szV V ∧ V (40 + c0) ≠ 126) : ∀ t e, EO V ps oh st ch (if sd0 = 0 then L0 else L1) sd0 c0 t e ↔ ET V ps oh st ch L0 L1 z t e := by
  intro t e
  constructor
  · intro q
    exact ⟨sd0, c0, h, hz, hc, q⟩
  · rintro ⟨sd, c, a1, a2, a3, a4⟩
    have e1 : sd = sd0 := by omega
    have e2 : c = c0 := by omega
    subst e1
    subst e2
    exact a4
theorem o22 {w w1 : am_W} (h : only [22] w w1) : only [22, 23] w w1 := h.sub fun q hq => by rw [List.mem_singleton.mp hq]; decide
theorem o23 {w w1 : am_W} (h : only [23] w w1) : only [22, 23] w w1 := h.sub fun q hq => by rw [List.mem_singleton.mp hq]; decide
theorem e_chE {d : Nat} {w00 w : am_W} {V : Nat → Int} {ps oh st ch L0 L1 : Int} (f t n : Int32) (o5 : Option Value) (hz : szV V ≤ 36) (ht : 0 ≤ t.toInt ∧ t.toInt < szV V) (J : ab_J ab_TT ab_sets ab_WR w00 w) (fin : ∀ u, u < 72 → (rI w 22 u = 1000000 ∧ nvT (ET V ps oh st ch L0 L1) f.toInt.toNat u) ∨ (rI w 22 u < 1000000 ∧ mnT (ET V ps oh st ch L0 L1) f.toInt.toNat u (rI w 22 u))) (bd : ∀ u, u < 72 → 0 ≤ rI w 22 u ∧ rI w 22 u ≤ 1000000) : aw none (d + 1) 51 (fun r w1 => ab_J ab_TT ab_sets ab_WR w00 w1 ∧ ∃ z : Int32, r = some (.int z) ∧ (z.toInt = -6 ∨ (0 ≤ z.toInt ∧ z.toInt ≤ 1000000)) ∧ trR (ET V ps oh st ch L0 L1) f.toInt.toNat t.toInt.toNat z.toInt) (74, [some (.ref 21), some (.ref 3), some (.int f), some (.int t), some (.int n), o5], []) w := by
  refine aw_step (f1 := (75, [some (.ref 21), some (.ref 3), some (.int f), some (.int t), some (.int n), o5], [(.ref 21)])) (w1 := w) rfl rfl ?_
  refine s_gr 22 J 78 rfl rfl rfl rfl rfl rfl ?_
  refine aw_step (f1 := (79, [some (.ref 21), some (.ref 3), some (.int f), some (.int t), some (.int n), o5], [(.int t), (.ref 22)])) (w1 := w) rfl rfl ?_
  refine s_ia J 80 rfl rfl rfl rfl (by omega) (by omega) fun x1 x1a x1b x1f => ?_
  have x1v : x1.toInt = rI w 22 t.toInt.toNat := by rw [← rI_of x1f]
  refine aw_step (f1 := (81, [some (.ref 21), some (.ref 3), some (.int f), some (.int t), some (.int n), o5], [(.ref 21), (.int x1)])) (w1 := w) rfl rfl ?_
  refine s_gr 22 J 84 rfl rfl rfl rfl rfl rfl ?_
  refine s_i (pc1 := 86) (ls1 := [some (.ref 21), some (.ref 3), some (.int f), some (.int t), some (.int n), o5]) (st1 := [(.ref 22), (.int x1)]) rfl rfl fun x2 e3 => ?_
  have e3t : x2.toInt = 36 := by rw [e3]; rfl
  refine aw_step (f1 := (87, [some (.ref 21), some (.ref 3), some (.int f), some (.int t), some (.int n), o5], [(.int t), (.int x2), (.ref 22), (.int x1)])) (w1 := w) rfl rfl ?_
  refine s_i (pc1 := 88) (ls1 := [some (.ref 21), some (.ref 3), some (.int f), some (.int t), some (.int n), o5]) (st1 := [(.ref 22), (.int x1)]) rfl rfl fun x4 e5 => ?_
  have e5 : x4 = x2 + t := e5
  have e5t : x4.toInt = x2.toInt + t.toInt := by rw [e5]; exact n_add (by omega) (by omega)
  --
  refine s_ia J 89 rfl rfl rfl rfl (by omega) (by omega) fun x6 x6a x6b x6f => ?_
  have x6v : x6.toInt = rI w 22 x4.toInt.toNat := by rw [← rI_of x6f]
  --
  refine s_i (pc1 := 92) (ls1 := [some (.ref 21), some (.ref 3), some (.int f), some (.int t), some (.int n), o5]) (st1 := []) rfl rfl fun x7 e8 => ?_
  have e8t : x7.toInt = if x6.toInt < x1.toInt then x6.toInt else x1.toInt := by rw [e8]; exact n_mn
  have ha := x1v
  have hb2 := x6v
  rw [show x4.toInt.toNat = 36 + t.toInt.toNat by omega] at hb2
  have mm : (x6.toInt < x1.toInt ∧ x7.toInt = x6.toInt) ∨ (x1.toInt ≤ x6.toInt ∧ x7.toInt = x1.toInt) := by
    by_cases q : x6.toInt < x1.toInt
    · exact Or.inl ⟨q, by rw [e8t, if_pos q]⟩
    · exact Or.inr ⟨by omega, by rw [e8t, if_neg q]⟩
  have fa := fin t.toInt.toNat (by omega)
  have fb := fin (36 + t.toInt.toNat) (by omega)
  have ba := bd t.toInt.toNat (by omega)
  have bb := bd (36 + t.toInt.toNat) (by omega)
  rw [← ha] at fa ba
  rw [← hb2] at fb bb
  clear fin bd e8t
  refine aw_step (f1 := (94, [some (.ref 21), some (.ref 3), some (.int f), some (.int t), some (.int x7), o5], [])) (w1 := w) rfl rfl ?_
  refine aw_step (f1 := (96, [some (.ref 21), some (.ref 3), some (.int f), some (.int t), some (.int x7), o5], [(.int x7)])) (w1 := w) rfl rfl ?_
  refine s_i (pc1 := 98) (ls1 := [some (.ref 21), some (.ref 3), some (.int f), some (.int t), some (.int x7), o5]) (st1 := [(.int x7)]) rfl rfl fun x9 e10 => ?_
  have e10t : x9.toInt = 1000000 := by rw [e10]; rfl
  refine s_ic 106 101 rfl rfl rfl (fun (h11 : ¬ x7.toInt = x9.toInt) => ?_) (fun (h11 : ¬ (¬ x7.toInt = x9.toInt)) => ?_)
  · --
    refine aw_step (f1 := (108, [some (.ref 21), some (.ref 3), some (.int f), some (.int t), some (.int x7), o5], [(.int x7)])) (w1 := w) rfl rfl ?_
    refine aw_ret (v := some (.int x7)) rfl rfl ?_
    exact ⟨J, x7, rfl, by clear fa fb; omega, trR.of fa fb (by clear fa fb; omega)⟩
  · --
    refine s_i (pc1 := 103) (ls1 := [some (.ref 21), some (.ref 3), some (.int f), some (.int t), some (.int x7), o5]) (st1 := []) rfl rfl fun x12 e13 => ?_
    have e13t : x12.toInt = -6 := by rw [e13]; rfl
    refine aw_step (f1 := (108, [some (.ref 21), some (.ref 3), some (.int f), some (.int t), some (.int x7), o5], [(.int x12)])) (w1 := w) rfl rfl ?_
    refine aw_ret (v := some (.int x12)) rfl rfl ?_
    exact ⟨J, x12, rfl, by clear fa fb; omega, trR.of fa fb (by clear fa fb; omega)⟩
theorem e_chL {d : Nat} {w00 : am_W} {V : Nat → Int} {ps oh st ch L0 L1 : Int} (R00 : RCs w00 3 V) (ok : okT ps oh st ch) (hk3 : fI w00 21 3 = ps) (hk4 : fI w00 21 4 = oh) (hk5 : fI w00 21 5 = st) (hk6 : fI w00 21 6 = ch) (g0 : rI w00 24 0 = L0) (g1 : rI w00 24 1 = L1) (gL : (0 ≤ L0 ∧ L0 ≤ 1000) ∧ 0 ≤ L1 ∧ L1 ≤ 1000) (f t : Int32) (hf : 0 ≤ f.toInt ∧ f.toInt < szV V ∧ V (40 + f.toInt.toNat) ≠ 126) (ht : 0 ≤ t.toInt ∧ t.toInt < szV V) (I0 : ab_inv ab_TT ab_sets w00) : ∀ (m : Nat) (w : am_W) (n : Int32) (o5 : Option Value), (72 - n.toInt).toNat < m → 0 ≤ n.toInt → n.toInt ≤ 72 → ab_J ab_TT ab_sets ab_WR w00 w → only [22, 23] w00 w → djI (ET V ps oh st ch L0 L1) f.toInt.toNat (rI w 22) (rI w 23) → sm (rI w 23) 72 = n.toInt → aw none (d + 3) 51 (fun r w1 => ab_J ab_TT ab_sets ab_WR w00 w1 ∧ ∃ z : Int32, r = some (.int z) ∧ (z.toInt = -6 ∨ (0 ≤ z.toInt ∧ z.toInt ≤ 1000000)) ∧ trR (ET V ps oh st ch L0 L1) f.toInt.toNat t.toInt.toNat z.toInt) (27, [some (.ref 21), some (.ref 3), some (.int f), some (.int t), some (.int n), o5], []) w := by
  have szc := szC_in I0
  have hsz0 := R00.sz
  have hz36 : szV V ≤ 36 := by omega
  have hE := ET_b (V := V) (L0 := L0) (L1 := L1) hz36 ok
  intro m
  induction m with
  | zero => intro w n o5 p; omega
  | succ m ih =>
    intro w n o5 p1 p2 p3 J O D S1
    have R := R00.of O (by decide)
    refine aw_step (f1 := (29, [some (.ref 21), some (.ref 3), some (.int f), some (.int t), some (.int n), o5], [(.int n)])) (w1 := w) rfl rfl ?_
    refine aw_step (f1 := (30, [some (.ref 21), some (.ref 3), some (.int f), some (.int t), some (.int n), o5], [(.ref 21), (.int n)])) (w1 := w) rfl rfl ?_
    refine s_gr 22 J 33 rfl rfl rfl rfl rfl rfl ?_
    refine s_al J 34 rfl rfl rfl rfl (by decide) fun x1 x1t => ?_
    refine s_ic 74 37 rfl rfl rfl (fun (h2 : x1.toInt ≤ n.toInt) => ?_) (fun (h2 : ¬ (x1.toInt ≤ n.toInt)) => ?_)
    · --
      have al : ∀ u, u < 72 → rI w 23 u ≠ 0 ∨ rI w 22 u = 1000000 := fun u hu => by
        have q := (sm_1 (q := rI w 23) (n := 72) (fun j hj => by rcases D.2.2.1 j hj with a | ⟨a, -⟩ <;> omega)).2 (by omega) u hu
        exact Or.inl (by omega)
      exact e_chE f t n _ hz36 ht J (fun u hu => D.end_ (by omega) hE al hu) (fun u hu => D.b hE hu)
    · --
      refine aw_step (f1 := (38, [some (.ref 21), some (.ref 3), some (.int f), some (.int t), some (.int n), o5], [(.ref 21)])) (w1 := w) rfl rfl ?_
      refine s_cv (z := 52) (p := 21) (as := []) (st1 := []) J 41 rfl rfl rfl rfl rfl rfl rfl rfl (Nat.le_of_ble_eq_true rfl) (Nat.le_of_ble_eq_true rfl) (e_nearest J.1) ?_
      rintro _ _ ⟨rfl, x3, rfl, x3t⟩
      refine ⟨rfl, ?_⟩
      show aw none _ 51 _ (41, [some (.ref 21), some (.ref 3), some (.int f), some (.int t), some (.int n), o5], [(.int x3)]) w
      have x3b := x3t.b
      refine aw_step (f1 := (43, [some (.ref 21), some (.ref 3), some (.int f), some (.int t), some (.int n), some (.int x3)], [])) (w1 := w) rfl rfl ?_
      refine aw_step (f1 := (45, [some (.ref 21), some (.ref 3), some (.int f), some (.int t), some (.int n), some (.int x3)], [(.int x3)])) (w1 := w) rfl rfl ?_
      refine s_i (pc1 := 47) (ls1 := [some (.ref 21), some (.ref 3), some (.int f), some (.int t), some (.int n), some (.int x3)]) (st1 := [(.int x3)]) rfl rfl fun x4 e5 => ?_
      have e5t : x4.toInt = -6 := by rw [e5]; rfl
      refine s_ic 53 50 rfl rfl rfl (fun (h6 : ¬ x3.toInt = x4.toInt) => ?_) (fun (h6 : ¬ (¬ x3.toInt = x4.toInt)) => ?_)
      · --
        have z3 := (show (0 ≤ x3.toInt ∧ x3.toInt < 72) ∧ rI w 23 x3.toInt.toNat = 0 ∧ rI w 22 x3.toInt.toNat ≠ 1000000 ∧ ∀ t : Nat, (t : Int) < 72 → rI w 23 t = 0 → rI w 22 t ≠ 1000000 → rI w 22 x3.toInt.toNat ≤ rI w 22 t from by
          rcases x3t with q | q
          · exact absurd q.1 (by omega)
          · exact q)
        obtain ⟨zr, z0, zn, zm⟩ := z3
        have wkz : ∃ n, wk (ET V ps oh st ch L0 L1) f.toInt.toNat n x3.toInt.toNat (rI w 22 x3.toInt.toNat) := by
          rcases D.2.1 x3.toInt.toNat (by omega) with q | q
          · exact absurd q zn
          · exact q.2
        obtain ⟨nw, wkz⟩ := wkz
        obtain ⟨sd0, c0, hsd0, hzz0, c36, c0s, c0l⟩ := wk_ld hz36 ⟨by omega, hf.2.2⟩ wkz
        clear wkz
        obtain ⟨zz, hzz1⟩ : ∃ zz, zz = x3.toInt.toNat := ⟨_, rfl⟩
        have hzz : zz = 36 * sd0 + c0 := by omega
        refine aw_step (f1 := (54, [some (.ref 21), some (.ref 3), some (.int f), some (.int t), some (.int n), some (.int x3)], [(.ref 21)])) (w1 := w) rfl rfl ?_
        refine s_gr 23 J 57 rfl rfl rfl rfl rfl rfl ?_
        refine aw_step (f1 := (59, [some (.ref 21), some (.ref 3), some (.int f), some (.int t), some (.int n), some (.int x3)], [(.int x3), (.ref 23)])) (w1 := w) rfl rfl ?_
        refine s_i (pc1 := 60) (ls1 := [some (.ref 21), some (.ref 3), some (.int f), some (.int t), some (.int n), some (.int x3)]) (st1 := [(.int x3), (.ref 23)]) rfl rfl fun x7 e8 => ?_
        have e8t : x7.toInt = 1 := by rw [e8]; rfl
        refine s_is J 61 rfl rfl rfl rfl (by omega) (by omega) (by omega) (by omega) fun w9 J10 w9e => ?_
        have w9f := rI_st J.1 (p := 23) (j := x3.toInt.toNat) rfl (by omega) w9e
        have Rz := R.of w9f.1 (by decide)
        have k3 : fI w9 21 3 = ps := by rw [w9f.1.fIe (by decide), O.fIe (by decide)]; exact hk3
        have k4 : fI w9 21 4 = oh := by rw [w9f.1.fIe (by decide), O.fIe (by decide)]; exact hk4
        have k5 : fI w9 21 5 = st := by rw [w9f.1.fIe (by decide), O.fIe (by decide)]; exact hk5
        have k6 : fI w9 21 6 = ch := by rw [w9f.1.fIe (by decide), O.fIe (by decide)]; exact hk6
        have kg0 : rI w9 24 0 = L0 := by rw [w9f.1.rIe (by decide), O.rIe (by decide)]; exact g0
        have kg1 : rI w9 24 1 = L1 := by rw [w9f.1.rIe (by decide), O.rIe (by decide)]; exact g1
        have hbz : ∀ t, t < 72 → 0 ≤ rI w9 22 t ∧ rI w9 22 t ≤ 1000000 := fun u hu => by rw [w9f.1.rIe (by decide)]; exact D.b hE hu
        refine aw_step (f1 := (62, [some (.ref 21), some (.ref 3), some (.int f), some (.int t), some (.int n), some (.int x3)], [(.ref 21)])) (w1 := w9) rfl rfl ?_
        refine aw_step (f1 := (63, [some (.ref 21), some (.ref 3), some (.int f), some (.int t), some (.int n), some (.int x3)], [(.ref 3), (.ref 21)])) (w1 := w9) rfl rfl ?_
        refine aw_step (f1 := (65, [some (.ref 21), some (.ref 3), some (.int f), some (.int t), some (.int n), some (.int x3)], [(.int x3), (.ref 3), (.ref 21)])) (w1 := w9) rfl rfl ?_
        refine s_cv (z := 53) (p := 21) (as := [(.ref 3), (.int x3)]) (st1 := []) J10 68 rfl rfl rfl rfl rfl rfl rfl rfl (Nat.le_of_ble_eq_true rfl) (Nat.le_of_ble_eq_true rfl) (e_goOn (sd0 := sd0) (c0 := c0) (Rz) ok k3 k4 k5 k6 kg0 kg1 gL x3 hsd0 (by omega) c0s hbz J10.1) ?_
        rintro _ w11 ⟨rfl, J12c, w11o, w11p⟩
        have J12 := J10.trans J12c
        refine ⟨am_len2 J10 J12c, ?_⟩
        show aw none _ 51 _ (68, [some (.ref 21), some (.ref 3), some (.int f), some (.int t), some (.int n), some (.int x3)], []) w11
        refine aw_step (f1 := (71, [some (.ref 21), some (.ref 3), some (.int f), some (.int t), some (.int (n + Int32.ofInt 1)), some (.int x3)], [])) (w1 := w11) rfl rfl ?_
        obtain ⟨x13, x13e⟩ : ∃ z, z = (n + Int32.ofInt 1) := ⟨_, rfl⟩
        have x13t : x13.toInt = n.toInt + (1) := by rw [x13e]; exact n_add (y := Int32.ofInt (1)) (by show _ ≤ _ + (1 : Int); omega) (by show _ + (1 : Int) ≤ _; omega)
        rw [← x13e]
        refine aw_step (f1 := (27, [some (.ref 21), some (.ref 3), some (.int f), some (.int t), some (.int x13), some (.int x3)], [])) (w1 := w11) rfl rfl ?_
        have gp := w11p
        rw [show x3.toInt.toNat = zz by omega] at gp
        have r22 : rI w9 22 = rI w 22 := by funext j; exact w9f.1.rIe (by decide)
        rw [r22] at gp
        have q23 : rI w11 23 = rI w9 23 := by funext j; exact w11o.rIe (by decide)
        have D2 : djI (ET V ps oh st ch L0 L1) f.toInt.toNat (rI w11 22) (rI w11 23) := by
          rw [q23]
          refine D.st hE (by omega) ?_ ?_ ?_ (EO_ET hsd0 hzz ⟨by omega, c0s, c0l⟩) gp ?_ ?_
          · rw [← show x3.toInt.toNat = zz by omega]; exact z0
          · rw [← show x3.toInt.toNat = zz by omega]; exact zn
          · intro u hu u1 u2
            rw [← show x3.toInt.toNat = zz by omega]
            exact zm u (by omega) u1 u2
          · rw [← show x3.toInt.toNat = zz by omega, w9f.2.1]; omega
          · intro j hj
            exact w9f.2.2 j (by omega)
        have S2 : sm (rI w11 23) 72 = n.toInt + 1 := by
          rw [q23, ← S1]
          exact (sm_up (z := x3.toInt.toNat) (by rw [w9f.2.1]; omega) w9f.2.2 (n := 72)).2 (by omega)
        exact ih w11 x13 _ (by omega) (by omega) (by omega) J12 ((O.trans (o23 w9f.1)).trans (o22 w11o)) D2 (by omega)
      · --
        refine aw_step (f1 := (74, [some (.ref 21), some (.ref 3), some (.int f), some (.int t), some (.int n), some (.int x3)], [])) (w1 := w) rfl rfl ?_
        have al : ∀ u, u < 72 → rI w 23 u ≠ 0 ∨ rI w 22 u = 1000000 := fun u hu => by
          rcases x3t with q | q
          · exact q.2 u (by omega)
          · have := q.1; omega
        exact e_chE f t n _ hz36 ht J (fun u hu => D.end_ (by omega) hE al hu) (fun u hu => D.b hE hu)
theorem e_cheapest {d : Nat} {w : am_W} {V : Nat → Int} {ps oh st ch L0 L1 : Int} (R : RCs w 3 V) (ok : okT ps oh st ch) (hk3 : fI w 21 3 = ps) (hk4 : fI w 21 4 = oh) (hk5 : fI w 21 5 = st) (hk6 : fI w 21 6 = ch) (g0 : rI w 24 0 = L0) (g1 : rI w 24 1 = L1) (gL : (0 ≤ L0 ∧ L0 ≤ 1000) ∧ 0 ≤ L1 ∧ L1 ≤ 1000) (f t : Int32) (hf : 0 ≤ f.toInt ∧ f.toInt < szV V ∧ V (40 + f.toInt.toNat) ≠ 126) (ht : 0 ≤ t.toInt ∧ t.toInt < szV V) (I : ab_inv ab_TT ab_sets w) : aw none (d + 3) 51 (fun r w1 => ab_J ab_TT ab_sets ab_WR w w1 ∧ ∃ z : Int32, r = some (.int z) ∧ (z.toInt = -6 ∨ (0 ≤ z.toInt ∧ z.toInt ≤ 1000000)) ∧ trR (ET V ps oh st ch L0 L1) f.toInt.toNat t.toInt.toNat z.toInt) (0, am_entry 51 [.ref 21, .ref 3, .int f, .int t], []) w := by
  have J : ab_J ab_TT ab_sets ab_WR w w := ⟨I, ab_fr.rf⟩
  have szc := szC_in I
  have hsz := R.sz
  show aw none (d + 3) 51 _ (0, [some (.ref 21), some (.ref 3), some (.int f), some (.int t), none, none], []) w
  refine aw_step (f1 := (1, [some (.ref 21), some (.ref 3), some (.int f), some (.int t), none, none], [(.ref 21)])) (w1 := w) rfl rfl ?_
  refine s_gr 22 J 4 rfl rfl rfl rfl rfl rfl ?_
  refine s_i (pc1 := 6) (ls1 := [some (.ref 21), some (.ref 3), some (.int f), some (.int t), none, none]) (st1 := [(.ref 22)]) rfl rfl fun x1 e2 => ?_
  have e2t : x1.toInt = 1000000 := by rw [e2]; rfl
  refine s_cs (z := 192) (as := [(.ref 22), (.int x1)]) (st1 := []) 9 rfl rfl rfl rfl rfl rfl (Nat.le_of_ble_eq_true rfl) (Nat.le_of_ble_eq_true rfl) (Nat.le_of_ble_eq_true rfl) (e_fill22 x1 J.1) ?_
  rintro _ w3 ⟨rfl, J4c, w3o, w3p⟩
  have J4 := J.trans J4c
  refine ⟨am_len2 J J4c, ?_⟩
  show aw none _ 51 _ (9, [some (.ref 21), some (.ref 3), some (.int f), some (.int t), none, none], []) w3
  refine aw_step (f1 := (10, [some (.ref 21), some (.ref 3), some (.int f), some (.int t), none, none], [(.ref 21)])) (w1 := w3) rfl rfl ?_
  refine s_gr 23 J4 13 rfl rfl rfl rfl rfl rfl ?_
  refine s_i (pc1 := 14) (ls1 := [some (.ref 21), some (.ref 3), some (.int f), some (.int t), none, none]) (st1 := [(.ref 23)]) rfl rfl fun x5 e6 => ?_
  have e6t : x5.toInt = 0 := by rw [e6]; rfl
  refine s_cs (z := 192) (as := [(.ref 23), (.int x5)]) (st1 := []) 17 rfl rfl rfl rfl rfl rfl (Nat.le_of_ble_eq_true rfl) (Nat.le_of_ble_eq_true rfl) (Nat.le_of_ble_eq_true rfl) (e_fill23 x5 J4.1) ?_
  rintro _ w7 ⟨rfl, J8c, w7o, w7p⟩
  have J8 := J4.trans J8c
  refine ⟨am_len2 J4 J8c, ?_⟩
  show aw none _ 51 _ (17, [some (.ref 21), some (.ref 3), some (.int f), some (.int t), none, none], []) w7
  refine aw_step (f1 := (18, [some (.ref 21), some (.ref 3), some (.int f), some (.int t), none, none], [(.ref 21)])) (w1 := w7) rfl rfl ?_
  refine s_gr 22 J8 21 rfl rfl rfl rfl rfl rfl ?_
  refine aw_step (f1 := (22, [some (.ref 21), some (.ref 3), some (.int f), some (.int t), none, none], [(.int f), (.ref 22)])) (w1 := w7) rfl rfl ?_
  refine s_i (pc1 := 23) (ls1 := [some (.ref 21), some (.ref 3), some (.int f), some (.int t), none, none]) (st1 := [(.int f), (.ref 22)]) rfl rfl fun x9 e10 => ?_
  have e10t : x9.toInt = 0 := by rw [e10]; rfl
  refine s_is J8 24 rfl rfl rfl rfl (by omega) (by omega) (by omega) (by omega) fun w11 J12 w11e => ?_
  have w11f := rI_st J8.1 (p := 22) (j := f.toInt.toNat) rfl (by omega) w11e
  refine s_i (pc1 := 25) (ls1 := [some (.ref 21), some (.ref 3), some (.int f), some (.int t), none, none]) (st1 := []) rfl rfl fun x13 e14 => ?_
  have e14t : x13.toInt = 0 := by rw [e14]; rfl
  refine aw_step (f1 := (27, [some (.ref 21), some (.ref 3), some (.int f), some (.int t), some (.int x13), none], [])) (w1 := w11) rfl rfl ?_
  have p22 : ∀ j : Nat, j < 72 → j ≠ f.toInt.toNat → rI w11 22 j = 1000000 := fun j hj hn => by
    rw [w11f.2.2 j hn, w7o.rIe (by decide), w3p j hj]; omega
  have p0 : rI w11 22 f.toInt.toNat = 0 := by rw [w11f.2.1]; omega
  have p23 : ∀ j : Nat, j < 72 → rI w11 23 j = 0 := fun j hj => by
    rw [w11f.1.rIe (by decide), w7p j hj]; omega
  have sm0 : sm (rI w11 23) 72 = 0 := by
    have h1 := sm_0 (r := rI w11 23) (n := 72) (fun j hj => by rw [p23 j hj]; exact Int.le_refl _)
    have h2 := sm_le (r := fun _ => 0) (r' := rI w11 23) (n := 72) (fun j hj => by rw [p23 j hj]; exact Int.le_refl _)
    have h3 : sm (fun _ => (0 : Int)) 72 = 0 := by decide
    omega
  refine e_chL R ok hk3 hk4 hk5 hk6 g0 g1 gL f t hf ht I 73 w11 x13 _ (by omega) (by omega) (by omega) J12 (((o22 w3o).trans (o23 w7o)).trans (o22 w11f.1)) ⟨by omega, fun u hu => ?_, fun u hu => Or.inl (p23 u hu), fun u v hu hv q1 q2 => by rw [p23 u hu] at q1; omega⟩ (by omega)
  by_cases e : u = f.toInt.toNat
  · subst e
    exact Or.inr ⟨by omega, 0, rfl, p0⟩
  · exact Or.inl (p22 u hu e)
