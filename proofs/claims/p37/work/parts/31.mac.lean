/-! ===== a stretch of Round.plan walked by hand: the number of places is told twice ===== -/
noncomputable def mc_plan (t : ab_T) : ab_R := match t.2.1, t.2.2.1 with
  | [some (2, 25, 0), a1, a2, a3, a4, a5, some (0, i, o), a7, a8, a9], [] => bif decide (0 ≤ (ab_iv t.1 (0, i, o)).1) && decide ((ab_iv t.1 (0, i, o)).2 ≤ 35) then some [(56, t)] else none
  | _, _ => none
set_option maxRecDepth 100000 in
theorem mc_planH {d : Nat} : ∀ p f, am_find [(27, mc_plan)] p = some f → ab_mok ab_TT ab_sets ab_WR d 30 p f := by
  intro p f hpf
  have hp : 27 = p ∧ mc_plan = f := by
    unfold am_find at hpf
    cases hb : Nat.beq 27 p with
    | true => rw [hb] at hpf; exact ⟨Nat.eq_of_beq_eq_true hb, Option.some.inj hpf⟩
    | false => rw [hb] at hpf; cases hpf
  obtain ⟨rfl, rfl⟩ := hp
  intro G w0 Q t L σ ls st w hft hg hJ h
  obtain ⟨E, LL, SS, GG⟩ := t
  unfold mc_plan at hft
  simp only at hft
  split at hft
  · rename_i a1 a2 a3 a4 a5 i o a7 a8 a9
    obtain ⟨b0, b3⟩ := am_bif hft
    have b1 := of_decide_eq_true (am_and b0).1
    have b2 := of_decide_eq_true (am_and b0).2
    cases b3
    have hl := hg.2.1
    have hs : st = [] := by
      have := hg.2.2.1
      cases st with
      | nil => rfl
      | cons v r => exact this.elim
    subst hs
    have hlen : ls.length = 10 := hl.1.symm
    obtain ⟨v0, e0, g0⟩ := hl.2 0 (2, 25, 0) rfl
    obtain ⟨v6, e6, g6⟩ := hl.2 6 (0, i, o) rfl
    have g0 := ab_sl_r g0 rfl
    subst g0
    obtain ⟨x, rfl, x1, x2⟩ := ab_sl_i g6 rfl
    have x3 : (ab_iv E (0, i, o)).1 ≤ x.toInt ∧ x.toInt ≤ (ab_iv E (0, i, o)).2 := ab_iv_of hg.1 x1 x2
    have K : ∀ w', ab_J ab_TT ab_sets ab_WR w0 w' → aw none d 30 Q (56, ls, []) w' := fun w' hJ' => h _ (List.mem_singleton.mpr rfl) [] ls [] w' (by rw [List.append_nil]; exact hg) hJ'
    have ld0 : ∀ pc (st : List Value), am_aload pc 0 ls st w = am_nx pc ls (.ref 25 :: st) w := by intro pc st; unfold am_aload; rw [e0]
    refine aw_step (f1 := (28, ls, [.ref 25])) (w1 := w) rfl (ld0 28 []) ?_
    refine s_gi hJ 31 rfl rfl rfl rfl rfl rfl fun m m1 m2 m3 => ?_
    refine s_i (pc1 := 32) (ls1 := ls) (st1 := [.int m]) rfl rfl fun c5 hc5 => ?_
    have c5' : c5.toInt = 5 := by rw [hc5]; rfl
    refine s_ic 56 35 rfl rfl rfl (fun _ => K w hJ) fun (n1 : ¬ c5.toInt ≤ m.toInt) => ?_
    refine aw_step (f1 := (36, ls, [.ref 25])) (w1 := w) rfl (ld0 36 []) ?_
    refine s_gr 26 hJ 39 rfl rfl rfl rfl rfl rfl ?_
    refine aw_step (f1 := (40, ls, [.ref 25, .ref 26])) (w1 := w) rfl (ld0 40 _) ?_
    refine s_gi hJ 43 rfl rfl rfl rfl rfl rfl fun m' m1' m2' m3' => ?_
    have em : m' = m := by rw [m3] at m3'; cases m3'; rfl
    subst em
    refine aw_step (f1 := (45, ls, [.int x, .int m', .ref 26])) (w1 := w) rfl (by show am_iload 45 6 ls [.int m', .ref 26] w = _; unfold am_iload; rw [e6]; rfl) ?_
    refine s_is hJ 46 rfl rfl rfl rfl m1 (by omega) (by omega) (by omega) fun w1 J1 e1 => ?_
    have ld1 : ∀ pc (st : List Value), am_aload pc 0 ls st w1 = am_nx pc ls (.ref 25 :: st) w1 := by intro pc st; unfold am_aload; rw [e0]
    refine aw_step (f1 := (47, ls, [.ref 25])) (w1 := w1) rfl (ld1 47 []) ?_
    refine aw_step (f1 := (48, ls, [.ref 25, .ref 25])) (w1 := w1) rfl rfl ?_
    refine s_gi J1 51 rfl rfl rfl rfl rfl rfl fun m'' m1'' m2'' m3'' => ?_
    have em : m'' = m' := by
      rw [e1, am_fv_ne (by decide), m3] at m3''
      cases m3''
      rfl
    subst em
    refine s_i (pc1 := 52) (ls1 := ls) (st1 := [.int m'', .ref 25]) rfl rfl fun c1 hc1 => ?_
    have c1' : c1.toInt = 1 := by rw [hc1]; rfl
    refine s_i (pc1 := 53) (ls1 := ls) (st1 := [.ref 25]) rfl rfl fun s hs => ?_
    have hs' : s.toInt = m''.toInt + c1.toInt := by rw [hs]; exact n_add (by omega) (by omega)
    refine s_pi J1 56 rfl rfl rfl rfl rfl rfl rfl (by omega) (by omega) fun w2 J2 e2 => K w2 J2
  · cases hft
/-! ===== single steps with better intervals ===== -/
theorem mc_1 {T : List ab_C} {sets : List (List Nat)} {wr : ab_wT} {d k p0 : Nat} {f0 : ab_T → ab_R} {mc : List (Nat × (ab_T → ab_R))} (h : ab_mok T sets wr d k p0 f0) (hm : ∀ p f, am_find mc p = some f → ab_mok T sets wr d k p f) : ∀ p f, am_find ((p0, f0) :: mc) p = some f → ab_mok T sets wr d k p f := by
  intro p f hpf
  unfold am_find at hpf
  cases hb : Nat.beq p0 p with
  | true =>
    rw [hb] at hpf
    have e := Nat.eq_of_beq_eq_true hb
    subst e
    cases Option.some.inj hpf
    exact h
  | false => rw [hb] at hpf; exact hm p f hpf
noncomputable def mc_in (E : ab_E) (s : ab_S) (lo hi : Int) : Bool := decide (lo ≤ (ab_iv E s).1) && decide ((ab_iv E s).2 ≤ hi)
theorem mc_in_s {E : ab_E} {σ : List Int} {s : ab_S} {lo hi x : Int} (h : mc_in E s lo hi = true) (he : ab_env E σ) (h1 : s.2.1 < σ.length) (h2 : x = σ.getD s.2.1 0 + s.2.2) : lo ≤ x ∧ x ≤ hi := by
  have := ab_iv_of he h1 h2
  have a1 := of_decide_eq_true (am_and h).1
  have a2 := of_decide_eq_true (am_and h).2
  omega
/-- two ints of 0 and 1, or -/
noncomputable def mc_or (n : Nat) (t : ab_T) : ab_R := match t.2.2.1 with
  | b :: a :: r => bif Nat.beq a.1 0 && (Nat.beq b.1 0 && (mc_in t.1 a 0 1 && mc_in t.1 b 0 1)) then ab_1 n (ab_new t.1 0 0 1) t.2.1 r t.2.2.2 else none
  | _ => none
theorem mc_orH {T : List ab_C} {sets : List (List Nat)} {wr : ab_wT} {d k p len : Nat} (n : Nat) (hf : am_find (am_code k) p = some (.ior, len)) (hn : p + 1 = n) : ab_mok T sets wr d k p (mc_or n) := by
  intro G w0 Q t L σ ls st w hft hg hJ h
  subst hn
  obtain ⟨E, LL, SS, GG⟩ := t
  obtain ⟨g1, g2, g3, g4⟩ := hg
  unfold mc_or at hft
  simp only at hft
  split at hft
  · rename_i b a r
    obtain ⟨c, e⟩ := am_bif hft
    obtain ⟨c1, c⟩ := am_and c
    obtain ⟨c2, c⟩ := am_and c
    obtain ⟨c3, c4⟩ := am_and c
    obtain ⟨v, st1, rfl, s1, g3a⟩ := ab_stk_cons g3
    obtain ⟨u, st2, rfl, s2, g3b⟩ := ab_stk_cons g3a
    obtain ⟨x, rfl, x1, x2⟩ := ab_sl_i s1 c2
    obtain ⟨y, rfl, y1, y2⟩ := ab_sl_i s2 c1
    have hx := mc_in_s c4 g1 x1 x2
    have hy := mc_in_s c3 g1 y1 y2
    have ez : 0 ≤ (y ||| x).toInt ∧ (y ||| x).toInt ≤ 1 := by
      have hx : x = 0 ∨ x = 1 := (show x.toInt = 0 ∨ x.toInt = 1 by omega).imp n_0 n_1
      have hy : y = 0 ∨ y = 1 := (show y.toInt = 0 ∨ y.toInt = 1 by omega).imp n_0 n_1
      rcases hx with rfl | rfl <;> rcases hy with rfl | rfl <;> decide
    have q := ab_new_i (sets := sets) g1 ez.1 ez.2
    unfold ab_1 at e
    cases e
    exact aw_step hf (f1 := (p + 1, ls, .int (y ||| x) :: st2)) (w1 := w) rfl (h _ (List.mem_singleton.mpr rfl) [_] ls _ w ⟨q.1, g2.app _, ⟨q.2, g3b.app _⟩, g4.app _⟩ hJ)
  · cases hft
/-- two longs of 36 bits, or -/
noncomputable def mc_lor (n : Nat) (t : ab_T) : ab_R := match t.2.2.1 with
  | b :: a :: r => bif Nat.beq a.1 1 && (Nat.beq b.1 1 && (mc_in t.1 a 0 68719476735 && mc_in t.1 b 0 68719476735)) then ab_1 n (ab_new t.1 1 0 68719476735) t.2.1 r t.2.2.2 else none
  | _ => none
theorem n64_or36 {x y : Int64} (h : 0 ≤ x.toInt ∧ x.toInt ≤ 68719476735) (h' : 0 ≤ y.toInt ∧ y.toInt ≤ 68719476735) : 0 ≤ (x ||| y).toInt ∧ (x ||| y).toInt ≤ 68719476735 := by
  have hx := n64_of h.1
  have hy := n64_of h'.1
  have hz : n64 (x ||| y) < 2 ^ 36 := by
    rw [n64_or]
    exact Nat.or_lt_two_pow (by omega) (by omega)
  have := n64_toInt (x := x ||| y) (by omega)
  omega
theorem mc_lorH {T : List ab_C} {sets : List (List Nat)} {wr : ab_wT} {d k p len : Nat} (n : Nat) (hf : am_find (am_code k) p = some (.lor, len)) (hn : p + 1 = n) : ab_mok T sets wr d k p (mc_lor n) := by
  intro G w0 Q t L σ ls st w hft hg hJ h
  subst hn
  obtain ⟨E, LL, SS, GG⟩ := t
  obtain ⟨g1, g2, g3, g4⟩ := hg
  unfold mc_lor at hft
  simp only at hft
  split at hft
  · rename_i b a r
    obtain ⟨c, e⟩ := am_bif hft
    obtain ⟨c1, c⟩ := am_and c
    obtain ⟨c2, c⟩ := am_and c
    obtain ⟨c3, c4⟩ := am_and c
    obtain ⟨v, st1, rfl, s1, g3a⟩ := ab_stk_cons g3
    obtain ⟨u, st2, rfl, s2, g3b⟩ := ab_stk_cons g3a
    obtain ⟨x, rfl, x1, x2⟩ := ab_sl_l s1 c2
    obtain ⟨y, rfl, y1, y2⟩ := ab_sl_l s2 c1
    have ez := n64_or36 (mc_in_s c3 g1 y1 y2) (mc_in_s c4 g1 x1 x2)
    have q := ab_new_l (sets := sets) g1 ez.1 ez.2
    unfold ab_1 at e
    cases e
    exact aw_step hf (f1 := (p + 1, ls, .long (y ||| x) :: st2)) (w1 := w) rfl (h _ (List.mem_singleton.mpr rfl) [_] ls _ w ⟨q.1, g2.app _, ⟨q.2, g3b.app _⟩, g4.app _⟩ hJ)
  · cases hft
/-- 1 shifted by at most 35 -/
noncomputable def mc_lshl (n : Nat) (t : ab_T) : ab_R := match t.2.2.1 with
  | b :: a :: r => bif Nat.beq a.1 1 && (Nat.beq b.1 0 && (mc_in t.1 a 1 1 && mc_in t.1 b 0 35)) then ab_1 n (ab_new t.1 1 0 68719476735) t.2.1 r t.2.2.2 else none
  | _ => none
theorem mc_lshlH {T : List ab_C} {sets : List (List Nat)} {wr : ab_wT} {d k p len : Nat} (n : Nat) (hf : am_find (am_code k) p = some (.lshl, len)) (hn : p + 1 = n) : ab_mok T sets wr d k p (mc_lshl n) := by
  intro G w0 Q t L σ ls st w hft hg hJ h
  subst hn
  obtain ⟨E, LL, SS, GG⟩ := t
  obtain ⟨g1, g2, g3, g4⟩ := hg
  unfold mc_lshl at hft
  simp only at hft
  split at hft
  · rename_i b a r
    obtain ⟨c, e⟩ := am_bif hft
    obtain ⟨c1, c⟩ := am_and c
    obtain ⟨c2, c⟩ := am_and c
    obtain ⟨c3, c4⟩ := am_and c
    obtain ⟨v, st1, rfl, s1, g3a⟩ := ab_stk_cons g3
    obtain ⟨u, st2, rfl, s2, g3b⟩ := ab_stk_cons g3a
    obtain ⟨x, rfl, x1, x2⟩ := ab_sl_i s1 c2
    obtain ⟨y, rfl, y1, y2⟩ := ab_sl_l s2 c1
    have hx := mc_in_s c4 g1 x1 x2
    have hy := mc_in_s c3 g1 y1 y2
    have e1 := n64_shl (c := x) hx.1 (by omega) (o := y) (by omega)
    have e2 : 2 ^ x.toInt.toNat ≤ 2 ^ 35 := Nat.pow_le_pow_right (by omega) (by omega)
    have e3 := n64_toInt (x := y <<< (x.toInt64 &&& 63)) (by omega)
    have q := ab_new_l (sets := sets) (x := y <<< (x.toInt64 &&& 63)) (lo := 0) (hi := 68719476735) g1 (by omega) (by omega)
    unfold ab_1 at e
    cases e
    exact aw_step hf (f1 := (p + 1, ls, .long (y <<< (x.toInt64 &&& 63)) :: st2)) (w1 := w) rfl (h _ (List.mem_singleton.mpr rfl) [_] ls _ w ⟨q.1, g2.app _, ⟨q.2, g3b.app _⟩, g4.app _⟩ hJ)
  · cases hft
