/-! ===== a stretch of Round.plan walked by hand: the number of places is told twice ===== -/
def mc_plan (t : ab_T) : ab_R := match t.2.1, t.2.2.1 with
  | [some (2, 25, 0), a1, a2, a3, a4, a5, some (0, i, o), a7, a8, a9], [] => bif decide (0 ≤ (ab_iv t.1 (0, i, o)).1) && decide ((ab_iv t.1 (0, i, o)).2 ≤ 35) then some [(56, t)] else none
  | _, _ => none
set_option maxRecDepth 100000 in
theorem mc_planH {d : Nat} : ∀ p f, am_find [(27, mc_plan)] p = some f → ab_mok ab_TT ab_sets ab_WR d 30 p f := by
  intro p f hpf
  have hp : 27 = p ∧ mc_plan = f := by
    unfold am_find at hpf
    cases hb : Nat.beq 27 p with
    | true => rw [hb] at hpf; exact ⟨Nat.eq_of_beq_eq_true hb, Option.some.inj hpf⟩
    | false => rw [hb] at hpf; cases hpf
  obtain ⟨rfl, rfl⟩ := hp
  intro G w0 Q t L σ ls st w hft hg hJ h
  obtain ⟨E, LL, SS, GG⟩ := t
  unfold mc_plan at hft
  simp only at hft
  split at hft
  · rename_i a1 a2 a3 a4 a5 i o a7 a8 a9
    obtain ⟨b0, b3⟩ := am_bif hft
    have b1 := of_decide_eq_true (am_and b0).1
    have b2 := of_decide_eq_true (am_and b0).2
    cases b3
    have hl := hg.2.1
    have hs : st = [] := by
      have := hg.2.2.1
      cases st with
      | nil => rfl
      | cons v r => exact this.elim
    subst hs
    have hlen : ls.length = 10 := hl.1.symm
    obtain ⟨v0, e0, g0⟩ := hl.2 0 (2, 25, 0) rfl
    obtain ⟨v6, e6, g6⟩ := hl.2 6 (0, i, o) rfl
    have g0 := ab_sl_r g0 rfl
    subst g0
    obtain ⟨x, rfl, x1, x2⟩ := ab_sl_i g6 rfl
    have x3 : (ab_iv E (0, i, o)).1 ≤ x.toInt ∧ x.toInt ≤ (ab_iv E (0, i, o)).2 := ab_iv_of hg.1 x1 x2
    have K : ∀ w', ab_J ab_TT ab_sets ab_WR w0 w' → aw none d 30 Q (56, ls, []) w' := fun w' hJ' => h _ (List.mem_singleton.mpr rfl) [] ls [] w' (by rw [List.append_nil]; exact hg) hJ'
    have ld0 : ∀ pc (st : List Value), am_aload pc 0 ls st w = am_nx pc ls (.ref 25 :: st) w := by intro pc st; unfold am_aload; rw [e0]
    refine aw_step (f1 := (28, ls, [.ref 25])) (w1 := w) rfl (ld0 28 []) ?_
    refine s_gi hJ 31 rfl rfl rfl rfl rfl rfl fun m m1 m2 m3 => ?_
    refine s_i (pc1 := 32) (ls1 := ls) (st1 := [.int m]) rfl rfl fun c5 hc5 => ?_
    have c5' : c5.toInt = 5 := by rw [hc5]; rfl
    refine s_ic 56 35 rfl rfl rfl (fun _ => K w hJ) fun (n1 : ¬ c5.toInt ≤ m.toInt) => ?_
    refine aw_step (f1 := (36, ls, [.ref 25])) (w1 := w) rfl (ld0 36 []) ?_
    refine s_gr 26 hJ 39 rfl rfl rfl rfl rfl rfl ?_
    refine aw_step (f1 := (40, ls, [.ref 25, .ref 26])) (w1 := w) rfl (ld0 40 _) ?_
    refine s_gi hJ 43 rfl rfl rfl rfl rfl rfl fun m' m1' m2' m3' => ?_
    have em : m' = m := by rw [m3] at m3'; cases m3'; rfl
    subst em
    refine aw_step (f1 := (45, ls, [.int x, .int m', .ref 26])) (w1 := w) rfl (by show am_iload 45 6 ls [.int m', .ref 26] w = _; unfold am_iload; rw [e6]; rfl) ?_
    refine s_is hJ 46 rfl rfl rfl rfl m1 (by omega) (by omega) (by omega) fun w1 J1 e1 => ?_
    have ld1 : ∀ pc (st : List Value), am_aload pc 0 ls st w1 = am_nx pc ls (.ref 25 :: st) w1 := by intro pc st; unfold am_aload; rw [e0]
    refine aw_step (f1 := (47, ls, [.ref 25])) (w1 := w1) rfl (ld1 47 []) ?_
    refine aw_step (f1 := (48, ls, [.ref 25, .ref 25])) (w1 := w1) rfl rfl ?_
    refine s_gi J1 51 rfl rfl rfl rfl rfl rfl fun m'' m1'' m2'' m3'' => ?_
    have em : m'' = m' := by
      rw [e1, am_fv_ne (by decide), m3] at m3''
      cases m3''
      rfl
    subst em
    refine s_i (pc1 := 52) (ls1 := ls) (st1 := [.int m'', .ref 25]) rfl rfl fun c1 hc1 => ?_
    have c1' : c1.toInt = 1 := by rw [hc1]; rfl
    refine s_i (pc1 := 53) (ls1 := ls) (st1 := [.ref 25]) rfl rfl fun s hs => ?_
    have hs' : s.toInt = m''.toInt + c1.toInt := by rw [hs]; exact n_add (by omega) (by omega)
    refine s_pi J1 56 rfl rfl rfl rfl rfl rfl rfl (by omega) (by omega) fun w2 J2 e2 => K w2 J2
  · cases hft
