/-! ===== faults, lay ===== -/
theorem e_fLL {d : Nat} {w : am_W} (s : Int32) (hs : 0 ≤ s.toInt) (J : ab_J ab_TT ab_sets ab_WR2 w w) : ∀ (m : Nat) (i : Int32), (fI w 1 1 - i.toInt).toNat < m → 0 ≤ i.toInt → i.toInt ≤ fI w 1 1 → i.toInt ≤ s.toInt → (∀ j : Nat, (j : Int) < i.toInt → okL (rI w 2) s.toInt j) → aw none d 12 (fun r w1 => w = w1 ∧ ∃ z : Int32, r = some (.int z) ∧ fltL (rI w 2) s.toInt (fI w 1 1) z.toInt) (2, [some (.ref 1), some (.int s), some (.int i)], []) w := by
  have nb := fI_in (p := 1) (k := 1) J.1 rfl rfl
  intro m
  induction m with
  | zero => intro i p; omega
  | succ m ih =>
    intro i p1 p2 p3 p4 F
    refine aw_step (f1 := (3, [some (.ref 1), some (.int s), some (.int i)], [(.int i)])) (w1 := w) rfl rfl ?_
    refine aw_step (f1 := (4, [some (.ref 1), some (.int s), some (.int i)], [(.ref 1), (.int i)])) (w1 := w) rfl rfl ?_
    refine s_gi J 7 rfl rfl rfl rfl rfl rfl fun x1 x1a x1b x1f => ?_
    have x1v : x1.toInt = fI w 1 1 := by rw [← fI_of x1f]
    refine s_ic 56 10 rfl rfl rfl (fun (h2 : x1.toInt ≤ i.toInt) => ?_) (fun (h2 : ¬ (x1.toInt ≤ i.toInt)) => ?_)
    · --
      refine aw_step (f1 := (57, [some (.ref 1), some (.int s), some (.int i)], [(.ref 1)])) (w1 := w) rfl rfl ?_
      refine s_gi J 60 rfl rfl rfl rfl rfl rfl fun x3 x3a x3b x3f => ?_
      have x3v : x3.toInt = fI w 1 1 := by rw [← fI_of x3f]
      refine aw_step (f1 := (61, [some (.ref 1), some (.int s), some (.int i)], [(.int s), (.int x3)])) (w1 := w) rfl rfl ?_
      refine s_ic 69 64 rfl rfl rfl (fun (h4 : ¬ x3.toInt = s.toInt) => ?_) (fun (h4 : ¬ (¬ x3.toInt = s.toInt)) => ?_)
      · --
        refine aw_step (f1 := (70, [some (.ref 1), some (.int s), some (.int i)], [(.ref 1)])) (w1 := w) rfl rfl ?_
        refine s_gi J 73 rfl rfl rfl rfl rfl rfl fun x5 x5a x5b x5f => ?_
        have x5v : x5.toInt = fI w 1 1 := by rw [← fI_of x5f]
        refine aw_step (f1 := (74, [some (.ref 1), some (.int s), some (.int i)], [(.int s), (.int x5)])) (w1 := w) rfl rfl ?_
        refine s_i (pc1 := 77) (ls1 := [some (.ref 1), some (.int s), some (.int i)]) (st1 := []) rfl rfl fun x6 e7 => ?_
        have e7t : x6.toInt = if s.toInt < x5.toInt then s.toInt else x5.toInt := by rw [e7]; exact n_mn
        --
        refine aw_ret (v := some (.int x6)) rfl rfl ?_
        have hm := e7t
        split at hm
        all_goals first
          | exact ⟨rfl, x6, rfl, Or.inl ⟨by omega, by omega, fun j hj => F j (by omega)⟩⟩
          | exact ⟨rfl, x6, rfl, Or.inr (Or.inl ⟨by omega, by omega, fun j hj => F j (by omega), fun q => by first | (have h := q.2; omega) | exact q.1 (by omega)⟩)⟩
          | exact ⟨rfl, x6, rfl, Or.inr (Or.inr ⟨by omega, by omega, fun j hj => F j (by omega)⟩)⟩
      · --
        refine s_i (pc1 := 66) (ls1 := [some (.ref 1), some (.int s), some (.int i)]) (st1 := []) rfl rfl fun x8 e9 => ?_
        have e9t : x8.toInt = -6 := by rw [e9]; rfl
        refine aw_step (f1 := (77, [some (.ref 1), some (.int s), some (.int i)], [(.int x8)])) (w1 := w) rfl rfl ?_
        --
        refine aw_ret (v := some (.int x8)) rfl rfl ?_
        first
          | exact ⟨rfl, x8, rfl, Or.inl ⟨by omega, by omega, fun j hj => F j (by omega)⟩⟩
          | exact ⟨rfl, x8, rfl, Or.inr (Or.inl ⟨by omega, by omega, fun j hj => F j (by omega), fun q => by first | (have h := q.2; omega) | exact q.1 (by omega)⟩)⟩
          | exact ⟨rfl, x8, rfl, Or.inr (Or.inr ⟨by omega, by omega, fun j hj => F j (by omega)⟩)⟩
    · --
      refine aw_step (f1 := (11, [some (.ref 1), some (.int s), some (.int i)], [(.int i)])) (w1 := w) rfl rfl ?_
      refine aw_step (f1 := (12, [some (.ref 1), some (.int s), some (.int i)], [(.int s), (.int i)])) (w1 := w) rfl rfl ?_
      refine s_ic 56 15 rfl rfl rfl (fun (h10 : s.toInt ≤ i.toInt) => ?_) (fun (h10 : ¬ (s.toInt ≤ i.toInt)) => ?_)
      · --
        refine aw_step (f1 := (57, [some (.ref 1), some (.int s), some (.int i)], [(.ref 1)])) (w1 := w) rfl rfl ?_
        refine s_gi J 60 rfl rfl rfl rfl rfl rfl fun x11 x11a x11b x11f => ?_
        have x11v : x11.toInt = fI w 1 1 := by rw [← fI_of x11f]
        refine aw_step (f1 := (61, [some (.ref 1), some (.int s), some (.int i)], [(.int s), (.int x11)])) (w1 := w) rfl rfl ?_
        refine s_ic 69 64 rfl rfl rfl (fun (h12 : ¬ x11.toInt = s.toInt) => ?_) (fun (h12 : ¬ (¬ x11.toInt = s.toInt)) => ?_)
        · --
          refine aw_step (f1 := (70, [some (.ref 1), some (.int s), some (.int i)], [(.ref 1)])) (w1 := w) rfl rfl ?_
          refine s_gi J 73 rfl rfl rfl rfl rfl rfl fun x13 x13a x13b x13f => ?_
          have x13v : x13.toInt = fI w 1 1 := by rw [← fI_of x13f]
          refine aw_step (f1 := (74, [some (.ref 1), some (.int s), some (.int i)], [(.int s), (.int x13)])) (w1 := w) rfl rfl ?_
          refine s_i (pc1 := 77) (ls1 := [some (.ref 1), some (.int s), some (.int i)]) (st1 := []) rfl rfl fun x14 e15 => ?_
          have e15t : x14.toInt = if s.toInt < x13.toInt then s.toInt else x13.toInt := by rw [e15]; exact n_mn
          --
          refine aw_ret (v := some (.int x14)) rfl rfl ?_
          have hm := e15t
          split at hm
          all_goals first
            | exact ⟨rfl, x14, rfl, Or.inl ⟨by omega, by omega, fun j hj => F j (by omega)⟩⟩
            | exact ⟨rfl, x14, rfl, Or.inr (Or.inl ⟨by omega, by omega, fun j hj => F j (by omega), fun q => by first | (have h := q.2; omega) | exact q.1 (by omega)⟩)⟩
            | exact ⟨rfl, x14, rfl, Or.inr (Or.inr ⟨by omega, by omega, fun j hj => F j (by omega)⟩)⟩
        · --
          refine s_i (pc1 := 66) (ls1 := [some (.ref 1), some (.int s), some (.int i)]) (st1 := []) rfl rfl fun x16 e17 => ?_
          have e17t : x16.toInt = -6 := by rw [e17]; rfl
          refine aw_step (f1 := (77, [some (.ref 1), some (.int s), some (.int i)], [(.int x16)])) (w1 := w) rfl rfl ?_
          --
          refine aw_ret (v := some (.int x16)) rfl rfl ?_
          first
            | exact ⟨rfl, x16, rfl, Or.inl ⟨by omega, by omega, fun j hj => F j (by omega)⟩⟩
            | exact ⟨rfl, x16, rfl, Or.inr (Or.inl ⟨by omega, by omega, fun j hj => F j (by omega), fun q => by first | (have h := q.2; omega) | exact q.1 (by omega)⟩)⟩
            | exact ⟨rfl, x16, rfl, Or.inr (Or.inr ⟨by omega, by omega, fun j hj => F j (by omega)⟩)⟩
      · --
        refine aw_step (f1 := (16, [some (.ref 1), some (.int s), some (.int i)], [(.ref 1)])) (w1 := w) rfl rfl ?_
        refine s_gr 2 J 19 rfl rfl rfl rfl rfl rfl ?_
        refine aw_step (f1 := (20, [some (.ref 1), some (.int s), some (.int i)], [(.int i), (.ref 2)])) (w1 := w) rfl rfl ?_
        refine s_ia J 21 rfl rfl rfl rfl (by omega) (by omega) fun x18 x18a x18b x18f => ?_
        have x18v : x18.toInt = rI w 2 i.toInt.toNat := by rw [← rI_of x18f]
        refine s_i (pc1 := 23) (ls1 := [some (.ref 1), some (.int s), some (.int i)]) (st1 := [(.int x18)]) rfl rfl fun x19 e20 => ?_
        have e20t : x19.toInt = 46 := by rw [e20]; rfl
        refine s_ic 50 26 rfl rfl rfl (fun (h21 : x18.toInt = x19.toInt) => ?_) (fun (h21 : ¬ (x18.toInt = x19.toInt)) => ?_)
        · --
          refine aw_step (f1 := (53, [some (.ref 1), some (.int s), some (.int (i + Int32.ofInt 1))], [])) (w1 := w) rfl rfl ?_
          obtain ⟨x22, x22e⟩ : ∃ z, z = (i + Int32.ofInt 1) := ⟨_, rfl⟩
          have x22t : x22.toInt = i.toInt + (1) := by rw [x22e]; exact n_add (y := Int32.ofInt (1)) (by show _ ≤ _ + (1 : Int); omega) (by show _ + (1 : Int) ≤ _; omega)
          rw [← x22e]
          refine aw_step (f1 := (2, [some (.ref 1), some (.int s), some (.int x22)], [])) (w1 := w) rfl rfl ?_
          exact ih x22 (by omega) (by omega) (by omega) (by omega) (fun j hj => by
            by_cases q : j = i.toInt.toNat
            · rw [q]; unfold okL; omega
            · exact F j (by omega))
        · --
          refine aw_step (f1 := (27, [some (.ref 1), some (.int s), some (.int i)], [(.ref 1)])) (w1 := w) rfl rfl ?_
          refine s_gr 2 J 30 rfl rfl rfl rfl rfl rfl ?_
          refine aw_step (f1 := (31, [some (.ref 1), some (.int s), some (.int i)], [(.int i), (.ref 2)])) (w1 := w) rfl rfl ?_
          refine s_ia J 32 rfl rfl rfl rfl (by omega) (by omega) fun x23 x23a x23b x23f => ?_
          have x23v : x23.toInt = rI w 2 i.toInt.toNat := by rw [← rI_of x23f]
          refine s_i (pc1 := 34) (ls1 := [some (.ref 1), some (.int s), some (.int i)]) (st1 := [(.int x23)]) rfl rfl fun x24 e25 => ?_
          have e25t : x24.toInt = 94 := by rw [e25]; rfl
          refine s_ic 50 37 rfl rfl rfl (fun (h26 : x23.toInt = x24.toInt) => ?_) (fun (h26 : ¬ (x23.toInt = x24.toInt)) => ?_)
          · --
            refine aw_step (f1 := (53, [some (.ref 1), some (.int s), some (.int (i + Int32.ofInt 1))], [])) (w1 := w) rfl rfl ?_
            obtain ⟨x27, x27e⟩ : ∃ z, z = (i + Int32.ofInt 1) := ⟨_, rfl⟩
            have x27t : x27.toInt = i.toInt + (1) := by rw [x27e]; exact n_add (y := Int32.ofInt (1)) (by show _ ≤ _ + (1 : Int); omega) (by show _ + (1 : Int) ≤ _; omega)
            rw [← x27e]
            refine aw_step (f1 := (2, [some (.ref 1), some (.int s), some (.int x27)], [])) (w1 := w) rfl rfl ?_
            exact ih x27 (by omega) (by omega) (by omega) (by omega) (fun j hj => by
              by_cases q : j = i.toInt.toNat
              · rw [q]; unfold okL; omega
              · exact F j (by omega))
          · --
            refine aw_step (f1 := (38, [some (.ref 1), some (.int s), some (.int i)], [(.ref 1)])) (w1 := w) rfl rfl ?_
            refine s_gr 2 J 41 rfl rfl rfl rfl rfl rfl ?_
            refine aw_step (f1 := (42, [some (.ref 1), some (.int s), some (.int i)], [(.int i), (.ref 2)])) (w1 := w) rfl rfl ?_
            refine s_ia J 43 rfl rfl rfl rfl (by omega) (by omega) fun x28 x28a x28b x28f => ?_
            have x28v : x28.toInt = rI w 2 i.toInt.toNat := by rw [← rI_of x28f]
            refine s_i (pc1 := 45) (ls1 := [some (.ref 1), some (.int s), some (.int i)]) (st1 := [(.int x28)]) rfl rfl fun x29 e30 => ?_
            have e30t : x29.toInt = 126 := by rw [e30]; rfl
            refine s_ic 50 48 rfl rfl rfl (fun (h31 : x28.toInt = x29.toInt) => ?_) (fun (h31 : ¬ (x28.toInt = x29.toInt)) => ?_)
            · --
              refine aw_step (f1 := (53, [some (.ref 1), some (.int s), some (.int (i + Int32.ofInt 1))], [])) (w1 := w) rfl rfl ?_
              obtain ⟨x32, x32e⟩ : ∃ z, z = (i + Int32.ofInt 1) := ⟨_, rfl⟩
              have x32t : x32.toInt = i.toInt + (1) := by rw [x32e]; exact n_add (y := Int32.ofInt (1)) (by show _ ≤ _ + (1 : Int); omega) (by show _ + (1 : Int) ≤ _; omega)
              rw [← x32e]
              refine aw_step (f1 := (2, [some (.ref 1), some (.int s), some (.int x32)], [])) (w1 := w) rfl rfl ?_
              exact ih x32 (by omega) (by omega) (by omega) (by omega) (fun j hj => by
                by_cases q : j = i.toInt.toNat
                · rw [q]; unfold okL; omega
                · exact F j (by omega))
            · --
              refine aw_step (f1 := (49, [some (.ref 1), some (.int s), some (.int i)], [(.int i)])) (w1 := w) rfl rfl ?_
              refine aw_ret (v := some (.int i)) rfl rfl ?_
              first
                | exact ⟨rfl, i, rfl, Or.inl ⟨by omega, by omega, fun j hj => F j (by omega)⟩⟩
                | exact ⟨rfl, i, rfl, Or.inr (Or.inl ⟨by omega, by omega, fun j hj => F j (by omega), fun q => by first | (have h := q.2; omega) | exact q.1 (by omega)⟩)⟩
                | exact ⟨rfl, i, rfl, Or.inr (Or.inr ⟨by omega, by omega, fun j hj => F j (by omega)⟩)⟩
theorem e_faultOfLand {d : Nat} {w : am_W} (s : Int32) (hs : 0 ≤ s.toInt) (I : ab_inv ab_TT ab_sets w) : aw none d 12 (fun r w1 => w = w1 ∧ ∃ z : Int32, r = some (.int z) ∧ fltL (rI w 2) s.toInt (fI w 1 1) z.toInt) (0, am_entry 12 [.ref 1, .int s], []) w := by
  have J : ab_J ab_TT ab_sets ab_WR2 w w := ⟨I, ab_fr.rf⟩
  have nb := fI_in (p := 1) (k := 1) I rfl rfl
  show aw none d 12 _ (0, [some (.ref 1), some (.int s), none], []) w
  refine s_i (pc1 := 1) (ls1 := [some (.ref 1), some (.int s), none]) (st1 := []) rfl rfl fun x1 e2 => ?_
  have e2t : x1.toInt = 0 := by rw [e2]; rfl
  refine aw_step (f1 := (2, [some (.ref 1), some (.int s), some (.int x1)], [])) (w1 := w) rfl rfl ?_
  exact e_fLL s hs J 61 x1 (by omega) (by omega) (by omega) (by omega) (fun j hj => by omega)
theorem e_starts {d : Nat} {w : am_W} (s : Int32) : aw none (d + 1) 15 (fun r w1 => w = w1 ∧ ∃ z : Int32, r = some (.int z) ∧ ((z.toInt = 1 ∧ ((97 ≤ s.toInt ∧ s.toInt ≤ 102) ∨ s.toInt = 35)) ∨ (z.toInt = 0 ∧ ¬ ((97 ≤ s.toInt ∧ s.toInt ≤ 102) ∨ s.toInt = 35)))) (0, am_entry 15 [.int s], []) w := by
  show aw none (d + 1) 15 _ (0, [some (.int s)], []) w
  refine aw_step (f1 := (1, [some (.int s)], [(.int s)])) (w1 := w) rfl rfl ?_
  refine s_i (pc1 := 3) (ls1 := [some (.int s)]) (st1 := [(.int s)]) rfl rfl fun x1 e2 => ?_
  have e2t : x1.toInt = 35 := by rw [e2]; rfl
  refine s_ic 17 6 rfl rfl rfl (fun (h3 : s.toInt = x1.toInt) => ?_) (fun (h3 : ¬ (s.toInt = x1.toInt)) => ?_)
  · --
    refine s_i (pc1 := 18) (ls1 := [some (.int s)]) (st1 := []) rfl rfl fun x4 e5 => ?_
    have e5t : x4.toInt = 1 := by rw [e5]; rfl
    refine aw_step (f1 := (22, [some (.int s)], [(.int x4)])) (w1 := w) rfl rfl ?_
    refine aw_ret (v := some (.int x4)) rfl (am_retz (by omega)) ?_
    exact ⟨rfl, x4, rfl, by omega⟩
  · --
    refine aw_step (f1 := (7, [some (.int s)], [(.int s)])) (w1 := w) rfl rfl ?_
    refine s_i (pc1 := 9) (ls1 := [some (.int s)]) (st1 := [(.int s)]) rfl rfl fun x6 e7 => ?_
    have e7t : x6.toInt = 97 := by rw [e7]; rfl
    refine s_i (pc1 := 11) (ls1 := [some (.int s)]) (st1 := [(.int x6), (.int s)]) rfl rfl fun x8 e9 => ?_
    have e9t : x8.toInt = 102 := by rw [e9]; rfl
    refine s_cs (z := 102) (as := [(.int s), (.int x6), (.int x8)]) (st1 := []) 14 rfl rfl rfl rfl rfl rfl (Nat.le_of_ble_eq_true rfl) (Nat.le_of_ble_eq_true rfl) (Nat.le_of_ble_eq_true rfl) (q_within s x6 x8) ?_
    rintro _ _ ⟨rfl, x10, rfl, x10t⟩
    refine ⟨rfl, ?_⟩
    show aw none _ 15 _ (14, [some (.int s)], [(.int x10)]) w
    refine s_if 21 17 rfl rfl rfl (fun (h11 : x10.toInt = 0) => ?_) (fun (h11 : ¬ (x10.toInt = 0)) => ?_)
    · --
      refine s_i (pc1 := 22) (ls1 := [some (.int s)]) (st1 := []) rfl rfl fun x12 e13 => ?_
      have e13t : x12.toInt = 0 := by rw [e13]; rfl
      refine aw_ret (v := some (.int x12)) rfl (am_retz (by omega)) ?_
      exact ⟨rfl, x12, rfl, by omega⟩
    · --
      refine s_i (pc1 := 18) (ls1 := [some (.int s)]) (st1 := []) rfl rfl fun x14 e15 => ?_
      have e15t : x14.toInt = 1 := by rw [e15]; rfl
      refine aw_step (f1 := (22, [some (.int s)], [(.int x14)])) (w1 := w) rfl rfl ?_
      refine aw_ret (v := some (.int x14)) rfl (am_retz (by omega)) ?_
      exact ⟨rfl, x14, rfl, by omega⟩
theorem e_ends {d : Nat} {w : am_W} (f s : Int32) : aw none (d + 1) 16 (fun r w1 => w = w1 ∧ ∃ z : Int32, r = some (.int z) ∧ ((z.toInt = 1 ∧ ((f.toInt = 35 ∧ 48 ≤ s.toInt ∧ s.toInt ≤ 51) ∨ (f.toInt ≠ 35 ∧ 48 ≤ s.toInt ∧ s.toInt ≤ 53))) ∨ (z.toInt = 0 ∧ ¬ ((f.toInt = 35 ∧ 48 ≤ s.toInt ∧ s.toInt ≤ 51) ∨ (f.toInt ≠ 35 ∧ 48 ≤ s.toInt ∧ s.toInt ≤ 53))))) (0, am_entry 16 [.int f, .int s], []) w := by
  show aw none (d + 1) 16 _ (0, [some (.int f), some (.int s)], []) w
  refine aw_step (f1 := (1, [some (.int f), some (.int s)], [(.int s)])) (w1 := w) rfl rfl ?_
  refine s_i (pc1 := 3) (ls1 := [some (.int f), some (.int s)]) (st1 := [(.int s)]) rfl rfl fun x1 e2 => ?_
  have e2t : x1.toInt = 48 := by rw [e2]; rfl
  refine aw_step (f1 := (4, [some (.int f), some (.int s)], [(.int f), (.int x1), (.int s)])) (w1 := w) rfl rfl ?_
  refine s_i (pc1 := 6) (ls1 := [some (.int f), some (.int s)]) (st1 := [(.int f), (.int x1), (.int s)]) rfl rfl fun x3 e4 => ?_
  have e4t : x3.toInt = 35 := by rw [e4]; rfl
  refine s_ic 14 9 rfl rfl rfl (fun (h5 : ¬ f.toInt = x3.toInt) => ?_) (fun (h5 : ¬ (¬ f.toInt = x3.toInt)) => ?_)
  · --
    refine s_i (pc1 := 16) (ls1 := [some (.int f), some (.int s)]) (st1 := [(.int x1), (.int s)]) rfl rfl fun x6 e7 => ?_
    have e7t : x6.toInt = 53 := by rw [e7]; rfl
    refine s_cs (z := 102) (as := [(.int s), (.int x1), (.int x6)]) (st1 := []) 19 rfl rfl rfl rfl rfl rfl (Nat.le_of_ble_eq_true rfl) (Nat.le_of_ble_eq_true rfl) (Nat.le_of_ble_eq_true rfl) (q_within s x1 x6) ?_
    rintro _ _ ⟨rfl, x8, rfl, x8t⟩
    refine ⟨rfl, ?_⟩
    show aw none _ 16 _ (19, [some (.int f), some (.int s)], [(.int x8)]) w
    refine aw_ret (v := some (.int x8)) rfl (am_retz (by omega)) ?_
    exact ⟨rfl, x8, rfl, by omega⟩
  · --
    refine s_i (pc1 := 11) (ls1 := [some (.int f), some (.int s)]) (st1 := [(.int x1), (.int s)]) rfl rfl fun x9 e10 => ?_
    have e10t : x9.toInt = 51 := by rw [e10]; rfl
    refine aw_step (f1 := (16, [some (.int f), some (.int s)], [(.int x9), (.int x1), (.int s)])) (w1 := w) rfl rfl ?_
    refine s_cs (z := 102) (as := [(.int s), (.int x1), (.int x9)]) (st1 := []) 19 rfl rfl rfl rfl rfl rfl (Nat.le_of_ble_eq_true rfl) (Nat.le_of_ble_eq_true rfl) (Nat.le_of_ble_eq_true rfl) (q_within s x1 x9) ?_
    rintro _ _ ⟨rfl, x11, rfl, x11t⟩
    refine ⟨rfl, ?_⟩
    show aw none _ 16 _ (19, [some (.int f), some (.int s)], [(.int x11)]) w
    refine aw_ret (v := some (.int x11)) rfl (am_retz (by omega)) ?_
    exact ⟨rfl, x11, rfl, by omega⟩
theorem e_fWL {d : Nat} {w : am_W} (J : ab_J ab_TT ab_sets ab_WR2 w w) : ∀ (m : Nat) (i : Int32) (o2 : Option Value), (fI w 1 1 - i.toInt).toNat < m → 0 ≤ i.toInt → i.toInt ≤ fI w 1 1 → (∀ j : Nat, (j : Int) < i.toInt → okW (rI w 2) j) → aw none (d + 2) 13 (fun r w1 => w = w1 ∧ ∃ z : Int32, r = some (.int z) ∧ fltW (rI w 2) (fI w 1 1) z.toInt) (2, [some (.ref 1), some (.int i), o2], []) w := by
  have nb := fI_in (p := 1) (k := 1) J.1 rfl rfl
  intro m
  induction m with
  | zero => intro i o2 p; omega
  | succ m ih =>
    intro i o2 p1 p2 p3 F
    refine aw_step (f1 := (3, [some (.ref 1), some (.int i), o2], [(.int i)])) (w1 := w) rfl rfl ?_
    refine aw_step (f1 := (4, [some (.ref 1), some (.int i), o2], [(.ref 1), (.int i)])) (w1 := w) rfl rfl ?_
    refine s_gi J 7 rfl rfl rfl rfl rfl rfl fun x1 x1a x1b x1f => ?_
    have x1v : x1.toInt = fI w 1 1 := by rw [← fI_of x1f]
    refine s_ic 58 10 rfl rfl rfl (fun (h2 : x1.toInt ≤ i.toInt) => ?_) (fun (h2 : ¬ (x1.toInt ≤ i.toInt)) => ?_)
    · --
      refine aw_step (f1 := (59, [some (.ref 1), some (.int i), o2], [(.ref 1)])) (w1 := w) rfl rfl ?_
      refine s_gi J 62 rfl rfl rfl rfl rfl rfl fun x3 x3a x3b x3f => ?_
      have x3v : x3.toInt = fI w 1 1 := by rw [← fI_of x3f]
      refine s_i (pc1 := 63) (ls1 := [some (.ref 1), some (.int i), o2]) (st1 := [(.int x3)]) rfl rfl fun x4 e5 => ?_
      have e5t : x4.toInt = 2 := by rw [e5]; rfl
      refine s_dv (f := fun x y => x - x / y * y) 64 rfl rfl (by omega) fun x6 e7 => ?_
      have e7 : x6 = x3 - x3 / x4 * x4 := e7
      have e7t : x6.toInt = x3.toInt % x4.toInt := by rw [e7]; exact n_rem (by omega) (by omega)
      rw [e5t] at e7t
      refine s_if 72 67 rfl rfl rfl (fun (h8 : ¬ x6.toInt = 0) => ?_) (fun (h8 : ¬ (¬ x6.toInt = 0)) => ?_)
      · --
        refine aw_step (f1 := (73, [some (.ref 1), some (.int i), o2], [(.ref 1)])) (w1 := w) rfl rfl ?_
        refine s_gi J 76 rfl rfl rfl rfl rfl rfl fun x9 x9a x9b x9f => ?_
        have x9v : x9.toInt = fI w 1 1 := by rw [← fI_of x9f]
        refine aw_ret (v := some (.int x9)) rfl rfl ?_
        first
          | exact ⟨rfl, x9, rfl, Or.inl ⟨by omega, by omega, fun j hj => F j (by omega)⟩⟩
          | exact ⟨rfl, x9, rfl, Or.inr (Or.inl ⟨by omega, by omega, fun j hj => F j (by omega), fun q => by unfold okW at q; omega⟩)⟩
          | exact ⟨rfl, x9, rfl, Or.inr (Or.inr ⟨by omega, by omega, fun j hj => F j (by omega)⟩)⟩
      · --
        refine s_i (pc1 := 69) (ls1 := [some (.ref 1), some (.int i), o2]) (st1 := []) rfl rfl fun x10 e11 => ?_
        have e11t : x10.toInt = -6 := by rw [e11]; rfl
        refine aw_step (f1 := (76, [some (.ref 1), some (.int i), o2], [(.int x10)])) (w1 := w) rfl rfl ?_
        refine aw_ret (v := some (.int x10)) rfl rfl ?_
        first
          | exact ⟨rfl, x10, rfl, Or.inl ⟨by omega, by omega, fun j hj => F j (by omega)⟩⟩
          | exact ⟨rfl, x10, rfl, Or.inr (Or.inl ⟨by omega, by omega, fun j hj => F j (by omega), fun q => by unfold okW at q; omega⟩)⟩
          | exact ⟨rfl, x10, rfl, Or.inr (Or.inr ⟨by omega, by omega, fun j hj => F j (by omega)⟩)⟩
    · --
      refine aw_step (f1 := (11, [some (.ref 1), some (.int i), o2], [(.int i)])) (w1 := w) rfl rfl ?_
      refine s_i (pc1 := 12) (ls1 := [some (.ref 1), some (.int i), o2]) (st1 := [(.int i)]) rfl rfl fun x12 e13 => ?_
      have e13t : x12.toInt = 2 := by rw [e13]; rfl
      refine s_dv (f := fun x y => x - x / y * y) 13 rfl rfl (by omega) fun x14 e15 => ?_
      have e15 : x14 = i - i / x12 * x12 := e15
      have e15t : x14.toInt = i.toInt % x12.toInt := by rw [e15]; exact n_rem (by omega) (by omega)
      rw [e13t] at e15t
      refine s_if 28 16 rfl rfl rfl (fun (h16 : ¬ x14.toInt = 0) => ?_) (fun (h16 : ¬ (¬ x14.toInt = 0)) => ?_)
      · --
        refine aw_step (f1 := (29, [some (.ref 1), some (.int i), o2], [(.ref 1)])) (w1 := w) rfl rfl ?_
        refine s_gr 2 J 32 rfl rfl rfl rfl rfl rfl ?_
        refine aw_step (f1 := (33, [some (.ref 1), some (.int i), o2], [(.int i), (.ref 2)])) (w1 := w) rfl rfl ?_
        refine s_i (pc1 := 34) (ls1 := [some (.ref 1), some (.int i), o2]) (st1 := [(.int i), (.ref 2)]) rfl rfl fun x17 e18 => ?_
        have e18t : x17.toInt = 1 := by rw [e18]; rfl
        refine s_i (pc1 := 35) (ls1 := [some (.ref 1), some (.int i), o2]) (st1 := [(.ref 2)]) rfl rfl fun x19 e20 => ?_
        have e20 : x19 = i - x17 := e20
        have e20t : x19.toInt = i.toInt - x17.toInt := by rw [e20]; exact n_sub (by omega) (by omega)
        --
        refine s_ia J 36 rfl rfl rfl rfl (by omega) (by omega) fun x21 x21a x21b x21f => ?_
        have x21v : x21.toInt = rI w 2 x19.toInt.toNat := by rw [← rI_of x21f]
        rw [show x19.toInt.toNat = i.toInt.toNat - 1 by omega] at x21v
        refine aw_step (f1 := (37, [some (.ref 1), some (.int i), o2], [(.ref 1), (.int x21)])) (w1 := w) rfl rfl ?_
        refine s_gr 2 J 40 rfl rfl rfl rfl rfl rfl ?_
        refine aw_step (f1 := (41, [some (.ref 1), some (.int i), o2], [(.int i), (.ref 2), (.int x21)])) (w1 := w) rfl rfl ?_
        refine s_ia J 42 rfl rfl rfl rfl (by omega) (by omega) fun x22 x22a x22b x22f => ?_
        have x22v : x22.toInt = rI w 2 i.toInt.toNat := by rw [← rI_of x22f]
        refine s_cs (z := 16) (as := [(.int x21), (.int x22)]) (st1 := []) 45 rfl rfl rfl rfl rfl rfl (Nat.le_of_ble_eq_true rfl) (Nat.le_of_ble_eq_true rfl) (Nat.le_of_ble_eq_true rfl) (e_ends x21 x22) ?_
        rintro _ _ ⟨rfl, x23, rfl, x23t⟩
        refine ⟨rfl, ?_⟩
        show aw none _ 13 _ (45, [some (.ref 1), some (.int i), o2], [(.int x23)]) w
        refine aw_step (f1 := (46, [some (.ref 1), some (.int i), some (.int x23)], [])) (w1 := w) rfl rfl ?_
        refine aw_step (f1 := (47, [some (.ref 1), some (.int i), some (.int x23)], [(.int x23)])) (w1 := w) rfl rfl ?_
        refine s_if 52 50 rfl rfl rfl (fun (h24 : ¬ x23.toInt = 0) => ?_) (fun (h24 : ¬ (¬ x23.toInt = 0)) => ?_)
        · --
          refine aw_step (f1 := (55, [some (.ref 1), some (.int (i + Int32.ofInt 1)), some (.int x23)], [])) (w1 := w) rfl rfl ?_
          obtain ⟨x25, x25e⟩ : ∃ z, z = (i + Int32.ofInt 1) := ⟨_, rfl⟩
          have x25t : x25.toInt = i.toInt + (1) := by rw [x25e]; exact n_add (y := Int32.ofInt (1)) (by show _ ≤ _ + (1 : Int); omega) (by show _ + (1 : Int) ≤ _; omega)
          rw [← x25e]
          refine aw_step (f1 := (2, [some (.ref 1), some (.int x25), some (.int x23)], [])) (w1 := w) rfl rfl ?_
          exact ih x25 _ (by omega) (by omega) (by omega) (fun j hj => by
            by_cases q : j = i.toInt.toNat
            · rw [q]; unfold okW; omega
            · exact F j (by omega))
        · --
          refine aw_step (f1 := (51, [some (.ref 1), some (.int i), some (.int x23)], [(.int i)])) (w1 := w) rfl rfl ?_
          refine aw_ret (v := some (.int i)) rfl rfl ?_
          first
            | exact ⟨rfl, i, rfl, Or.inl ⟨by omega, by omega, fun j hj => F j (by omega)⟩⟩
            | exact ⟨rfl, i, rfl, Or.inr (Or.inl ⟨by omega, by omega, fun j hj => F j (by omega), fun q => by unfold okW at q; omega⟩)⟩
            | exact ⟨rfl, i, rfl, Or.inr (Or.inr ⟨by omega, by omega, fun j hj => F j (by omega)⟩)⟩
      · --
        refine aw_step (f1 := (17, [some (.ref 1), some (.int i), o2], [(.ref 1)])) (w1 := w) rfl rfl ?_
        refine s_gr 2 J 20 rfl rfl rfl rfl rfl rfl ?_
        refine aw_step (f1 := (21, [some (.ref 1), some (.int i), o2], [(.int i), (.ref 2)])) (w1 := w) rfl rfl ?_
        refine s_ia J 22 rfl rfl rfl rfl (by omega) (by omega) fun x26 x26a x26b x26f => ?_
        have x26v : x26.toInt = rI w 2 i.toInt.toNat := by rw [← rI_of x26f]
        refine s_cs (z := 15) (as := [(.int x26)]) (st1 := []) 25 rfl rfl rfl rfl rfl rfl (Nat.le_of_ble_eq_true rfl) (Nat.le_of_ble_eq_true rfl) (Nat.le_of_ble_eq_true rfl) (e_starts x26) ?_
        rintro _ _ ⟨rfl, x27, rfl, x27t⟩
        refine ⟨rfl, ?_⟩
        show aw none _ 13 _ (25, [some (.ref 1), some (.int i), o2], [(.int x27)]) w
        refine aw_step (f1 := (45, [some (.ref 1), some (.int i), o2], [(.int x27)])) (w1 := w) rfl rfl ?_
        refine aw_step (f1 := (46, [some (.ref 1), some (.int i), some (.int x27)], [])) (w1 := w) rfl rfl ?_
        refine aw_step (f1 := (47, [some (.ref 1), some (.int i), some (.int x27)], [(.int x27)])) (w1 := w) rfl rfl ?_
        refine s_if 52 50 rfl rfl rfl (fun (h28 : ¬ x27.toInt = 0) => ?_) (fun (h28 : ¬ (¬ x27.toInt = 0)) => ?_)
        · --
          refine aw_step (f1 := (55, [some (.ref 1), some (.int (i + Int32.ofInt 1)), some (.int x27)], [])) (w1 := w) rfl rfl ?_
          obtain ⟨x29, x29e⟩ : ∃ z, z = (i + Int32.ofInt 1) := ⟨_, rfl⟩
          have x29t : x29.toInt = i.toInt + (1) := by rw [x29e]; exact n_add (y := Int32.ofInt (1)) (by show _ ≤ _ + (1 : Int); omega) (by show _ + (1 : Int) ≤ _; omega)
          rw [← x29e]
          refine aw_step (f1 := (2, [some (.ref 1), some (.int x29), some (.int x27)], [])) (w1 := w) rfl rfl ?_
          exact ih x29 _ (by omega) (by omega) (by omega) (fun j hj => by
            by_cases q : j = i.toInt.toNat
            · rw [q]; unfold okW; omega
            · exact F j (by omega))
        · --
          refine aw_step (f1 := (51, [some (.ref 1), some (.int i), some (.int x27)], [(.int i)])) (w1 := w) rfl rfl ?_
          refine aw_ret (v := some (.int i)) rfl rfl ?_
          first
            | exact ⟨rfl, i, rfl, Or.inl ⟨by omega, by omega, fun j hj => F j (by omega)⟩⟩
            | exact ⟨rfl, i, rfl, Or.inr (Or.inl ⟨by omega, by omega, fun j hj => F j (by omega), fun q => by unfold okW at q; omega⟩)⟩
            | exact ⟨rfl, i, rfl, Or.inr (Or.inr ⟨by omega, by omega, fun j hj => F j (by omega)⟩)⟩
theorem e_faultOfWalk {d : Nat} {w : am_W} (I : ab_inv ab_TT ab_sets w) : aw none (d + 2) 13 (fun r w1 => w = w1 ∧ ∃ z : Int32, r = some (.int z) ∧ fltW (rI w 2) (fI w 1 1) z.toInt) (0, am_entry 13 [.ref 1], []) w := by
  have J : ab_J ab_TT ab_sets ab_WR2 w w := ⟨I, ab_fr.rf⟩
  have nb := fI_in (p := 1) (k := 1) I rfl rfl
  show aw none (d + 2) 13 _ (0, [some (.ref 1), none, none], []) w
  refine s_i (pc1 := 1) (ls1 := [some (.ref 1), none, none]) (st1 := []) rfl rfl fun x1 e2 => ?_
  have e2t : x1.toInt = 0 := by rw [e2]; rfl
  refine aw_step (f1 := (2, [some (.ref 1), some (.int x1), none], [])) (w1 := w) rfl rfl ?_
  exact e_fWL J 61 x1 _ (by omega) (by omega) (by omega) (fun j hj => by omega)
theorem e_tdL {d : Nat} {w : am_W} (J : ab_J ab_TT ab_sets ab_WR2 w w) : ∀ (m : Nat) (i : Int32), (fI w 1 1 - i.toInt).toNat < m → 0 ≤ i.toInt → i.toInt ≤ fI w 1 1 → (∀ j : Nat, (j : Int) < i.toInt → rI w 2 j = 126) → aw none d 14 (fun r w1 => w = w1 ∧ ∃ z : Int32, r = some (.int z) ∧ ((z.toInt = 1 ∧ ∃ j : Nat, (j : Int) < fI w 1 1 ∧ rI w 2 j ≠ 126) ∨ (z.toInt = 0 ∧ ∀ j : Nat, (j : Int) < fI w 1 1 → rI w 2 j = 126))) (2, [some (.ref 1), some (.int i)], []) w := by
  have nb := fI_in (p := 1) (k := 1) J.1 rfl rfl
  intro m
  induction m with
  | zero => intro i p; omega
  | succ m ih =>
    intro i p1 p2 p3 F
    refine aw_step (f1 := (3, [some (.ref 1), some (.int i)], [(.int i)])) (w1 := w) rfl rfl ?_
    refine aw_step (f1 := (4, [some (.ref 1), some (.int i)], [(.ref 1), (.int i)])) (w1 := w) rfl rfl ?_
    refine s_gi J 7 rfl rfl rfl rfl rfl rfl fun x1 x1a x1b x1f => ?_
    have x1v : x1.toInt = fI w 1 1 := by rw [← fI_of x1f]
    refine s_ic 29 10 rfl rfl rfl (fun (h2 : x1.toInt ≤ i.toInt) => ?_) (fun (h2 : ¬ (x1.toInt ≤ i.toInt)) => ?_)
    · --
      refine s_i (pc1 := 30) (ls1 := [some (.ref 1), some (.int i)]) (st1 := []) rfl rfl fun x3 e4 => ?_
      have e4t : x3.toInt = 0 := by rw [e4]; rfl
      refine aw_ret (v := some (.int x3)) rfl (am_retz (by omega)) ?_
      first
        | exact ⟨rfl, x3, rfl, Or.inl ⟨by omega, i.toInt.toNat, by omega, by omega⟩⟩
        | exact ⟨rfl, x3, rfl, Or.inr ⟨by omega, fun j hj => F j (by omega)⟩⟩
    · --
      refine aw_step (f1 := (11, [some (.ref 1), some (.int i)], [(.ref 1)])) (w1 := w) rfl rfl ?_
      refine s_gr 2 J 14 rfl rfl rfl rfl rfl rfl ?_
      refine aw_step (f1 := (15, [some (.ref 1), some (.int i)], [(.int i), (.ref 2)])) (w1 := w) rfl rfl ?_
      refine s_ia J 16 rfl rfl rfl rfl (by omega) (by omega) fun x5 x5a x5b x5f => ?_
      have x5v : x5.toInt = rI w 2 i.toInt.toNat := by rw [← rI_of x5f]
      refine s_i (pc1 := 18) (ls1 := [some (.ref 1), some (.int i)]) (st1 := [(.int x5)]) rfl rfl fun x6 e7 => ?_
      have e7t : x6.toInt = 126 := by rw [e7]; rfl
      refine s_ic 23 21 rfl rfl rfl (fun (h8 : x5.toInt = x6.toInt) => ?_) (fun (h8 : ¬ (x5.toInt = x6.toInt)) => ?_)
      · --
        refine aw_step (f1 := (26, [some (.ref 1), some (.int (i + Int32.ofInt 1))], [])) (w1 := w) rfl rfl ?_
        obtain ⟨x9, x9e⟩ : ∃ z, z = (i + Int32.ofInt 1) := ⟨_, rfl⟩
        have x9t : x9.toInt = i.toInt + (1) := by rw [x9e]; exact n_add (y := Int32.ofInt (1)) (by show _ ≤ _ + (1 : Int); omega) (by show _ + (1 : Int) ≤ _; omega)
        rw [← x9e]
        refine aw_step (f1 := (2, [some (.ref 1), some (.int x9)], [])) (w1 := w) rfl rfl ?_
        exact ih x9 (by omega) (by omega) (by omega) (fun j hj => by
          by_cases q : j = i.toInt.toNat
          · rw [q]; omega
          · exact F j (by omega))
      · --
        refine s_i (pc1 := 22) (ls1 := [some (.ref 1), some (.int i)]) (st1 := []) rfl rfl fun x10 e11 => ?_
        have e11t : x10.toInt = 1 := by rw [e11]; rfl
        refine aw_ret (v := some (.int x10)) rfl (am_retz (by omega)) ?_
        first
          | exact ⟨rfl, x10, rfl, Or.inl ⟨by omega, i.toInt.toNat, by omega, by omega⟩⟩
          | exact ⟨rfl, x10, rfl, Or.inr ⟨by omega, fun j hj => F j (by omega)⟩⟩
theorem e_tellsDry {d : Nat} {w : am_W} (I : ab_inv ab_TT ab_sets w) : aw none d 14 (fun r w1 => w = w1 ∧ ∃ z : Int32, r = some (.int z) ∧ ((z.toInt = 1 ∧ ∃ j : Nat, (j : Int) < fI w 1 1 ∧ rI w 2 j ≠ 126) ∨ (z.toInt = 0 ∧ ∀ j : Nat, (j : Int) < fI w 1 1 → rI w 2 j = 126))) (0, am_entry 14 [.ref 1], []) w := by
  have J : ab_J ab_TT ab_sets ab_WR2 w w := ⟨I, ab_fr.rf⟩
  have nb := fI_in (p := 1) (k := 1) I rfl rfl
  show aw none d 14 _ (0, [some (.ref 1), none], []) w
  refine s_i (pc1 := 1) (ls1 := [some (.ref 1), none]) (st1 := []) rfl rfl fun x1 e2 => ?_
  have e2t : x1.toInt = 0 := by rw [e2]; rfl
  refine aw_step (f1 := (2, [some (.ref 1), some (.int x1)], [])) (w1 := w) rfl rfl ?_
  exact e_tdL J 61 x1 (by omega) (by omega) (by omega) (fun j hj => by omega)
noncomputable def tkI (w00 w : am_W) (m : Int) : Prop := only [4] w00 w ∧ ∀ j : Nat, (j : Int) < m → rI w 4 j = rI w00 2 j
theorem e_tkL {d : Nat} {w00 : am_W} (I0 : ab_inv ab_TT ab_sets w00) (hd : ∃ c : Nat, (c : Int) < szC w00 ∧ rI w00 2 c ≠ 126) : ∀ (m : Nat) (w : am_W) (c : Int32), (szC w00 - c.toInt).toNat < m → 0 ≤ c.toInt → c.toInt ≤ szC w00 → ab_J ab_TT ab_sets ab_WR2 w00 w → tkI w00 w c.toInt → aw none (d + 3) 35 (fun r w1 => r = none ∧ ab_J ab_TT ab_sets ab_WR2 w00 w1 ∧ ∃ w2, tkI w00 w2 (szC w00) ∧ stlP w2 w1) (2, [some (.ref 3), some (.ref 2), some (.int c)], []) w := by
  have sz := szC_in I0
  intro m
  induction m with
  | zero => intro w c p; omega
  | succ m ih =>
    intro w c p1 p2 p3 J D
    have hs : szC w = szC w00 := by unfold szC; rw [D.1.fIe (by decide), D.1.fIe (by decide)]
    refine aw_step (f1 := (3, [some (.ref 3), some (.ref 2), some (.int c)], [(.int c)])) (w1 := w) rfl rfl ?_
    refine aw_step (f1 := (4, [some (.ref 3), some (.ref 2), some (.int c)], [(.ref 3), (.int c)])) (w1 := w) rfl rfl ?_
    refine s_cv (z := 38) (p := 3) (as := []) (st1 := [(.int c)]) J 7 rfl rfl rfl rfl rfl rfl rfl rfl (Nat.le_of_ble_eq_true rfl) (Nat.le_of_ble_eq_true rfl) (q_size J.1) ?_
    rintro _ _ ⟨rfl, x1, rfl, x1t⟩
    refine ⟨rfl, ?_⟩
    show aw none _ 35 _ (7, [some (.ref 3), some (.ref 2), some (.int c)], [(.int x1), (.int c)]) w
    refine s_ic 31 10 rfl rfl rfl (fun (h2 : x1.toInt ≤ c.toInt) => ?_) (fun (h2 : ¬ (x1.toInt ≤ c.toInt)) => ?_)
    · --
      refine aw_step (f1 := (32, [some (.ref 3), some (.ref 2), some (.int c)], [(.ref 3)])) (w1 := w) rfl rfl ?_
      have D : tkI w00 w (szC w00) := ⟨D.1, fun j hj => D.2 j (by omega)⟩
      have HD : ∃ c : Nat, (c : Int) < szC w ∧ rI w 4 c ≠ 126 := by
        obtain ⟨c0, h1, h2⟩ := hd
        exact ⟨c0, by omega, by rw [D.2 c0 h1]; exact h2⟩
      refine s_cv (z := 36) (p := 3) (as := []) (st1 := []) J 35 rfl rfl rfl rfl rfl rfl rfl rfl (Nat.le_of_ble_eq_true rfl) (Nat.le_of_ble_eq_true rfl) (e_settle HD J.1) ?_
      rintro _ w3 ⟨rfl, J4c, w3p⟩
      have J4 := J.trans J4c
      refine ⟨am_len2 J J4c, ?_⟩
      show aw none _ 35 _ (35, [some (.ref 3), some (.ref 2), some (.int c)], []) w3
      refine aw_ret (v := none) rfl rfl ?_
      exact ⟨rfl, J4, w, D, w3p⟩
    · --
      refine aw_step (f1 := (11, [some (.ref 3), some (.ref 2), some (.int c)], [(.int c)])) (w1 := w) rfl rfl ?_
      refine aw_step (f1 := (12, [some (.ref 3), some (.ref 2), some (.int c)], [(.ref 2), (.int c)])) (w1 := w) rfl rfl ?_
      refine s_al J 13 rfl rfl rfl rfl (by decide) fun x5 x5t => ?_
      refine s_ic 31 16 rfl rfl rfl (fun (h6 : x5.toInt ≤ c.toInt) => ?_) (fun (h6 : ¬ (x5.toInt ≤ c.toInt)) => ?_)
      · --
        refine aw_step (f1 := (32, [some (.ref 3), some (.ref 2), some (.int c)], [(.ref 3)])) (w1 := w) rfl rfl ?_
        have D : tkI w00 w (szC w00) := ⟨D.1, fun j hj => D.2 j (by omega)⟩
        have HD : ∃ c : Nat, (c : Int) < szC w ∧ rI w 4 c ≠ 126 := by
          obtain ⟨c0, h1, h2⟩ := hd
          exact ⟨c0, by omega, by rw [D.2 c0 h1]; exact h2⟩
        refine s_cv (z := 36) (p := 3) (as := []) (st1 := []) J 35 rfl rfl rfl rfl rfl rfl rfl rfl (Nat.le_of_ble_eq_true rfl) (Nat.le_of_ble_eq_true rfl) (e_settle HD J.1) ?_
        rintro _ w7 ⟨rfl, J8c, w7p⟩
        have J8 := J.trans J8c
        refine ⟨am_len2 J J8c, ?_⟩
        show aw none _ 35 _ (35, [some (.ref 3), some (.ref 2), some (.int c)], []) w7
        refine aw_ret (v := none) rfl rfl ?_
        exact ⟨rfl, J8, w, D, w7p⟩
      · --
        refine aw_step (f1 := (17, [some (.ref 3), some (.ref 2), some (.int c)], [(.ref 3)])) (w1 := w) rfl rfl ?_
        refine s_gr 4 J 20 rfl rfl rfl rfl rfl rfl ?_
        refine aw_step (f1 := (21, [some (.ref 3), some (.ref 2), some (.int c)], [(.int c), (.ref 4)])) (w1 := w) rfl rfl ?_
        refine aw_step (f1 := (22, [some (.ref 3), some (.ref 2), some (.int c)], [(.ref 2), (.int c), (.ref 4)])) (w1 := w) rfl rfl ?_
        refine aw_step (f1 := (23, [some (.ref 3), some (.ref 2), some (.int c)], [(.int c), (.ref 2), (.int c), (.ref 4)])) (w1 := w) rfl rfl ?_
        refine s_ia J 24 rfl rfl rfl rfl (by omega) (by omega) fun x9 x9a x9b x9f => ?_
        have x9v : x9.toInt = rI w 2 c.toInt.toNat := by rw [← rI_of x9f]
        refine s_is J 25 rfl rfl rfl rfl (by omega) (by omega) (by omega) (by omega) fun w10 J11 w10e => ?_
        have w10f := rI_st J.1 (p := 4) (j := c.toInt.toNat) rfl (by omega) w10e
        refine aw_step (f1 := (28, [some (.ref 3), some (.ref 2), some (.int (c + Int32.ofInt 1))], [])) (w1 := w10) rfl rfl ?_
        obtain ⟨x12, x12e⟩ : ∃ z, z = (c + Int32.ofInt 1) := ⟨_, rfl⟩
        have x12t : x12.toInt = c.toInt + (1) := by rw [x12e]; exact n_add (y := Int32.ofInt (1)) (by show _ ≤ _ + (1 : Int); omega) (by show _ + (1 : Int) ≤ _; omega)
        rw [← x12e]
        refine aw_step (f1 := (2, [some (.ref 3), some (.ref 2), some (.int x12)], [])) (w1 := w10) rfl rfl ?_
        refine ih w10 x12 (by omega) (by omega) (by omega) J11 ⟨D.1.trans w10f.1, fun j hj => ?_⟩
        by_cases q : j = c.toInt.toNat
        · rw [q, w10f.2.1, x9v]; exact D.1.rIe (by decide)
        · rw [w10f.2.2 j q]; exact D.2 j (by omega)
theorem e_takeSigns {d : Nat} {w : am_W} (hd : ∃ c : Nat, (c : Int) < szC w ∧ rI w 2 c ≠ 126) (I : ab_inv ab_TT ab_sets w) : aw none (d + 3) 35 (fun r w1 => r = none ∧ ab_J ab_TT ab_sets ab_WR2 w w1 ∧ ∃ w2, tkI w w2 (szC w) ∧ stlP w2 w1) (0, am_entry 35 [.ref 3, .ref 2], []) w := by
  have J : ab_J ab_TT ab_sets ab_WR2 w w := ⟨I, ab_fr.rf⟩
  have sz := szC_in I
  show aw none (d + 3) 35 _ (0, [some (.ref 3), some (.ref 2), none], []) w
  refine s_i (pc1 := 1) (ls1 := [some (.ref 3), some (.ref 2), none]) (st1 := []) rfl rfl fun x1 e2 => ?_
  have e2t : x1.toInt = 0 := by rw [e2]; rfl
  refine aw_step (f1 := (2, [some (.ref 3), some (.ref 2), some (.int x1)], [])) (w1 := w) rfl rfl ?_
  exact e_tkL I hd 37 w x1 (by omega) (by omega) (by omega) J ⟨only.rf, fun j hj => by omega⟩
noncomputable def lyV (V P : Nat → Int) (h : Int) : Nat → Int := fun j => if j = 2 then h else if j = 3 ∨ j = 6 ∨ j = 7 then 0 else if 40 ≤ j ∧ (j : Int) - 40 < szV V then P (j - 40) else V j
theorem lyV_n {V P : Nat → Int} {h : Int} {j : Nat} (h2 : j ≠ 2) (h3 : j ≠ 3) (h6 : j ≠ 6) (h7 : j ≠ 7) (hj : j < 40) : lyV V P h j = V j := by unfold lyV; rw [if_neg h2, if_neg (by omega), if_neg (by omega)]
theorem lyV_c {V P : Nat → Int} {h : Int} {c : Nat} (hc : (c : Int) < szV V) : lyV V P h (40 + c) = P c := by unfold lyV; rw [if_neg (by omega), if_neg (by omega), if_pos (by omega), show 40 + c - 40 = c by omega]
theorem lyV_z {V P : Nat → Int} {h : Int} : szV (lyV V P h) = szV V := by
  have a := lyV_n (V := V) (P := P) (h := h) (j := 0) (by decide) (by decide) (by decide) (by decide) (by decide)
  have b := lyV_n (V := V) (P := P) (h := h) (j := 1) (by decide) (by decide) (by decide) (by decide) (by decide)
  show lyV V P h 0 * lyV V P h 1 = V 0 * V 1
  rw [a, b]
noncomputable def okP (n : Int) (P : Nat → Int) (V : Nat → Int) : Prop := n = szV V ∧ ∀ j : Nat, (j : Int) < n → P j = 46 ∨ P j = 94 ∨ P j = 126
noncomputable def layP (V : Nat → Int) (n : Int) (P : Nat → Int) (z : Int) (V' : Nat → Int) (n' : Int) : Prop := (z = -5 ∧ ¬ okP n P V ∧ V' = V ∧ n' = n) ∨ (z = -3 ∧ okP n P V ∧ (∀ j : Nat, (j : Int) < n → P j = 126) ∧ V' = V ∧ n' = n) ∨ (okP n P V ∧ n' = 0 ∧ ∃ (h : Int) (D : Nat), frst P (szV V) h ∧ V' = lyV V P h ∧ (∀ c : Nat, bt D c = 1 ↔ (c : Int) < szV V ∧ P c ≠ 126) ∧ z = cnt D 64)
theorem fltL_ok {P V : Nat → Int} {n z : Int} (h : fltL P (szV V) n z) (h0 : 0 ≤ n) (hz : 0 ≤ szV V) : (z = -6 ∧ okP n P V) ∨ (0 ≤ z ∧ ¬ okP n P V) := by
  rcases h with ⟨a, b, c⟩ | ⟨a, b, c, d⟩ | ⟨a, b, c⟩
  · refine Or.inl ⟨a, ?_, fun j hj => (c j hj).2⟩
    apply Classical.byContradiction
    intro q
    exact (c (szV V).toNat (by omega)).1 (by omega)
  · refine Or.inr ⟨a, fun q => d ⟨?_, q.2 z.toNat (by omega)⟩⟩
    have := q.1
    omega
  · refine Or.inr ⟨by omega, fun q => ?_⟩
    have := q.1
    omega
theorem RCs.laid {w w1 w2 : am_W} {V P : Nat → Int} (R : RCs w 3 V) (hP : ∀ j : Nat, rI w 2 j = P j) (K : tkI w w2 (szC w)) (S : stlP w2 w1) : RCs w1 3 (lyV V P (fI w1 3 2)) ∧ only [3, 4] w w1 ∧ frst P (szV V) (fI w1 3 2) ∧ ∀ c : Nat, bt (fL w1 3 5) c = 1 ↔ (c : Int) < szV V ∧ P c ≠ 126 := by
  obtain ⟨k1, k2⟩ := K
  obtain ⟨s1, s2, s3, s4, s5, s6, s7⟩ := S
  have z2 : szC w2 = szV V := by rw [← R.sz]; unfold szC; rw [k1.fIe (by decide), k1.fIe (by decide)]
  rw [R.sz] at k2
  have k3 : ∀ j : Nat, (j : Int) < szV V → rI w2 4 j = P j := fun j hj => (k2 j hj).trans (hP j)
  rw [z2] at s6 s7
  have dr : ∀ c : Nat, bt (fL w1 3 5) c = 1 ↔ (c : Int) < szV V ∧ P c ≠ 126 := fun c => (s6 c).trans ⟨fun q => ⟨q.1, by rw [← k3 c q.1]; exact q.2⟩, fun q => ⟨q.1, by rw [k3 c q.1]; exact q.2⟩⟩
  have fr : frst P (szV V) (fI w1 3 2) := by
    obtain ⟨q1, q2, q3⟩ := s7
    exact ⟨q1, by rw [← k3 _ (by omega)]; exact q2, fun j hj => by rw [← k3 j (by omega)]; exact q3 j hj⟩
  have e0 : fI w1 3 0 = V 0 := by rw [fI_eq (s2 0 (by decide) (by decide) (by decide) (by decide) (by decide)), k1.fIe (by decide)]; exact R.f0
  have e1 : fI w1 3 1 = V 1 := by rw [fI_eq (s2 1 (by decide) (by decide) (by decide) (by decide) (by decide)), k1.fIe (by decide)]; exact R.f1
  have l1 : lyV V P (fI w1 3 2) 1 = V 1 := lyV_n (by decide) (by decide) (by decide) (by decide) (by decide)
  refine ⟨RCs.mk (e0.trans (lyV_n (by decide) (by decide) (by decide) (by decide) (by decide)).symm) (e1.trans l1.symm) rfl s3 s4 s5 (fun r i h4 h11 h8 hi => ?_) (fun c hc => ?_) (fun c => ?_), (k1.sub (by decide)).trans (s1.sub (by decide)), fr, dr⟩
  · obtain ⟨v1, v2, v3, v4⟩ := vx_ok r h11 i h8 h4 hi
    have k := vx_67 r h11 i h8 h4 hi
    rw [lyV_n (by omega) (by omega) k.1 k.2 v4, s1.rIe (by simp only [List.mem_singleton]; omega), k1.rIe (by simp only [List.mem_singleton]; omega)]
    exact R.rv h4 h11 h8 hi
  · rw [lyV_z] at hc
    have q := R.2.1 c hc
    rw [s1.rIe (by decide), s1.rIe (by decide), s1.rIe (by decide), lyV_c hc, l1, k1.rIe (p := 3 + 2) (by decide), k1.rIe (p := 3 + 3) (by decide)]
    exact ⟨k3 c hc, q.2⟩
  · rw [lyV_z, dr c]
    exact ⟨fun q => ⟨q.1, by rw [lyV_c q.1]; exact q.2⟩, fun q => ⟨q.1, by have := q.2; rw [lyV_c q.1] at this; exact this⟩⟩
noncomputable def cL : List Nat := [1, 3, 4, 5, 6, 7, 8, 9, 10, 11, 12, 13]
noncomputable def mL : List Nat := [65, 66, 67, 68, 69, 70, 71, 72]
theorem e_lay {d : Nat} {w : am_W} {V P : Nat → Int} {n : Int} (R : RCs w 3 V) (R0 : RCp w n P) (I : ab_inv ab_TT ab_sets w) : aw none (d + 4) 64 (fun r w1 => ab_inv ab_TT ab_sets w1 ∧ only cL w w1 ∧ ∃ b : Int32, r = some (.int b) ∧ ∃ V' n', RCs w1 3 V' ∧ RCp w1 n' P ∧ layP V n P b.toInt V' n') (0, am_entry 64 [.ref 0], []) w := by
  have J : ab_J ab_TT ab_sets ab_WR2 w w := ⟨I, ab_fr.rf⟩
  have sz := szC_in I
  have hs := R.sz
  have RP := R0.2
  have hn := R0.1
  have nb := fI_in (p := 1) (k := 1) I rfl rfl
  show aw none (d + 4) 64 _ (0, [some (.ref 0)], []) w
  refine aw_step (f1 := (1, [some (.ref 0)], [(.ref 0)])) (w1 := w) rfl rfl ?_
  refine s_gr 1 J 4 rfl rfl rfl rfl rfl rfl ?_
  refine aw_step (f1 := (5, [some (.ref 0)], [(.ref 0), (.ref 1)])) (w1 := w) rfl rfl ?_
  refine s_gr 3 J 8 rfl rfl rfl rfl rfl rfl ?_
  refine s_cv (z := 38) (p := 3) (as := []) (st1 := [(.ref 1)]) J 11 rfl rfl rfl rfl rfl rfl rfl rfl (Nat.le_of_ble_eq_true rfl) (Nat.le_of_ble_eq_true rfl) (q_size J.1) ?_
  rintro _ _ ⟨rfl, x1, rfl, x1t⟩
  refine ⟨rfl, ?_⟩
  show aw none _ 64 _ (11, [some (.ref 0)], [(.int x1), (.ref 1)]) w
  refine s_cv (z := 12) (p := 1) (as := [(.int x1)]) (st1 := []) J 14 rfl rfl rfl rfl rfl rfl rfl rfl (Nat.le_of_ble_eq_true rfl) (Nat.le_of_ble_eq_true rfl) (e_faultOfLand x1 (by omega) J.1) ?_
  rintro _ _ ⟨rfl, x2, rfl, x2t⟩
  refine ⟨rfl, ?_⟩
  show aw none _ 64 _ (14, [some (.ref 0)], [(.int x2)]) w
  have fo := fltL_ok (P := P) (V := V) (z := x2.toInt) (by have q := x2t; rw [show rI w 2 = P from funext RP, x1t, hs, R0.1] at q; exact q) (by omega) (by omega)
  refine s_i (pc1 := 16) (ls1 := [some (.ref 0)]) (st1 := [(.int x2)]) rfl rfl fun x3 e4 => ?_
  have e4t : x3.toInt = -6 := by rw [e4]; rfl
  refine s_ic 22 19 rfl rfl rfl (fun (h5 : x2.toInt = x3.toInt) => ?_) (fun (h5 : ¬ (x2.toInt = x3.toInt)) => ?_)
  · --
    refine aw_step (f1 := (23, [some (.ref 0)], [(.ref 0)])) (w1 := w) rfl rfl ?_
    refine s_gr 1 J 26 rfl rfl rfl rfl rfl rfl ?_
    refine s_cv (z := 14) (p := 1) (as := []) (st1 := []) J 29 rfl rfl rfl rfl rfl rfl rfl rfl (Nat.le_of_ble_eq_true rfl) (Nat.le_of_ble_eq_true rfl) (e_tellsDry J.1) ?_
    rintro _ _ ⟨rfl, x6, rfl, x6t⟩
    refine ⟨rfl, ?_⟩
    show aw none _ 64 _ (29, [some (.ref 0)], [(.int x6)]) w
    --
    refine s_if 35 32 rfl rfl rfl (fun (h7 : ¬ x6.toInt = 0) => ?_) (fun (h7 : ¬ (¬ x6.toInt = 0)) => ?_)
    · --
      refine aw_step (f1 := (36, [some (.ref 0)], [(.ref 0)])) (w1 := w) rfl rfl ?_
      refine s_gr 3 J 39 rfl rfl rfl rfl rfl rfl ?_
      refine aw_step (f1 := (40, [some (.ref 0)], [(.ref 0), (.ref 3)])) (w1 := w) rfl rfl ?_
      refine s_gr 1 J 43 rfl rfl rfl rfl rfl rfl ?_
      refine s_gr 2 J 46 rfl rfl rfl rfl rfl rfl ?_
      have HD : ∃ c : Nat, (c : Int) < szC w ∧ rI w 2 c ≠ 126 := by
        obtain ⟨j, h1, h2⟩ := (show ∃ j : Nat, (j : Int) < fI w 1 1 ∧ rI w 2 j ≠ 126 from by
            rcases x6t with q | q
            · exact q.2
            · omega)
        have ok := (show okP n P V from by
            rcases fo with q | q
            · exact q.2
            · omega).1
        exact ⟨j, by omega, h2⟩
      refine s_cv (z := 35) (p := 3) (as := [(.ref 2)]) (st1 := []) J 49 rfl rfl rfl rfl rfl rfl rfl rfl (Nat.le_of_ble_eq_true rfl) (Nat.le_of_ble_eq_true rfl) (e_takeSigns HD J.1) ?_
      rintro _ w8 ⟨rfl, J9c, w8m, w8k, w8s⟩
      have J9 := J.trans J9c
      refine ⟨am_len2 J J9c, ?_⟩
      show aw none _ 64 _ (49, [some (.ref 0)], []) w8
      have w8R := R.laid RP w8k w8s
      refine aw_step (f1 := (50, [some (.ref 0)], [(.ref 0)])) (w1 := w8) rfl rfl ?_
      refine s_gr 1 J9 53 rfl rfl rfl rfl rfl rfl ?_
      refine s_i (pc1 := 54) (ls1 := [some (.ref 0)]) (st1 := [(.ref 1)]) rfl rfl fun x10 e11 => ?_
      have e11t : x10.toInt = 0 := by rw [e11]; rfl
      refine s_pi J9 57 rfl rfl rfl rfl rfl rfl rfl (by omega) (by omega) fun w12 J13 w12e => ?_
      have w12f := fv_st J9.1 (p := 1) (kf := 1) rfl (by decide) w12e
      refine aw_step (f1 := (58, [some (.ref 0)], [(.ref 0)])) (w1 := w12) rfl rfl ?_
      refine s_gr 3 J13 61 rfl rfl rfl rfl rfl rfl ?_
      refine s_gl J13 64 rfl rfl rfl rfl rfl rfl fun y14 y14a y14b y14f => ?_
      --
      refine s_cs (z := 188) (as := [(.long y14)]) (st1 := []) 67 rfl rfl rfl rfl rfl rfl (Nat.le_of_ble_eq_true rfl) (Nat.le_of_ble_eq_true rfl) (Nat.le_of_ble_eq_true rfl) (q_bc64 y14) ?_
      rintro _ _ ⟨rfl, x15, rfl, x15t⟩
      refine ⟨rfl, ?_⟩
      show aw none _ 64 _ (67, [some (.ref 0)], [(.int x15)]) w12
      refine aw_ret (v := some (.int x15)) rfl rfl ?_
      have ok : okP n P V := by
        rcases fo with q | q
        · exact q.2
        · omega
      exact ⟨J13.1, (w8R.2.1.sub (by decide)).trans (w12f.1.sub (by decide)), x15, rfl, _, _, w8R.1.of w12f.1 (by decide), ⟨by rw [fI_of w12f.2.1], fun j => by rw [w12f.1.rIe (by decide), w8R.2.1.rIe (by decide)]; exact RP j⟩, Or.inr (Or.inr ⟨ok, by omega, _, _, w8R.2.2.1, rfl, w8R.2.2.2, by rw [x15t, ← fL_of y14f, w12f.1.fLe (by decide)]⟩)⟩
    · --
      refine s_i (pc1 := 34) (ls1 := [some (.ref 0)]) (st1 := []) rfl rfl fun x16 e17 => ?_
      have e17t : x16.toInt = -3 := by rw [e17]; rfl
      refine aw_ret (v := some (.int x16)) rfl rfl ?_
      rcases fo with fo | fo
      · first
        | (exfalso; omega)
        | exact ⟨J.1, only.rf, x16, rfl, _, _, R, R0, Or.inr (Or.inl ⟨by omega, fo.2, fun j hj => by rw [← RP j]; exact ((x6t).resolve_left (fun q => by omega)).2 j (by omega), rfl, rfl⟩)⟩
      · first
        | (exfalso; omega)
        | exact ⟨J.1, only.rf, x16, rfl, _, _, R, R0, Or.inl ⟨by omega, fo.2, rfl, rfl⟩⟩
  · --
    refine s_i (pc1 := 21) (ls1 := [some (.ref 0)]) (st1 := []) rfl rfl fun x18 e19 => ?_
    have e19t : x18.toInt = -5 := by rw [e19]; rfl
    refine aw_ret (v := some (.int x18)) rfl rfl ?_
    rcases fo with fo | fo
    · first
      | (exfalso; omega)
      | exact ⟨J.1, only.rf, x18, rfl, _, _, R, R0, Or.inr (Or.inl ⟨by omega, fo.2, fun j hj => by rw [← RP j]; exact ((x6t).resolve_left (fun q => by omega)).2 j (by omega), rfl, rfl⟩)⟩
    · first
      | (exfalso; omega)
      | exact ⟨J.1, only.rf, x18, rfl, _, _, R, R0, Or.inl ⟨by omega, fo.2, rfl, rfl⟩⟩
theorem bt_no {x x' : Nat} {i : Int} {F : Nat → Prop} (h : ∀ j : Nat, bt x j = 1 ↔ (j : Int) < i ∧ F j) (h0 : 0 ≤ i) (q : ¬ F i.toNat) (e : x' = x ||| 0) : ∀ j : Nat, bt x' j = 1 ↔ (j : Int) < i + 1 ∧ F j := by
  intro j
  rw [e, Nat.or_zero, h j]
  refine ⟨fun z => ⟨by omega, z.2⟩, fun z => ⟨?_, z.2⟩⟩
  by_cases e : j = i.toNat
  · subst e; exact absurd z.2 q
  · omega
theorem bt_ye {x x' : Nat} {i : Int} {F : Nat → Prop} (h : ∀ j : Nat, bt x j = 1 ↔ (j : Int) < i ∧ F j) (h0 : 0 ≤ i) (q : F i.toNat) (e : x' = x ||| 2 ^ i.toNat) : ∀ j : Nat, bt x' j = 1 ↔ (j : Int) < i + 1 ∧ F j := by
  intro j
  have hj := h j
  have l1 := bt_le x j
  rw [e, bt_or, bt_pow]
  by_cases z : i.toNat = j
  · subst z
    rw [if_pos rfl]
    exact ⟨fun _ => ⟨by omega, q⟩, fun _ => by omega⟩
  · rw [if_neg z]
    constructor
    · intro g
      have := hj.mp (by omega)
      exact ⟨by omega, this.2⟩
    · intro g
      have := hj.mpr ⟨by omega, g.2⟩
      omega
theorem ldy {w : am_W} {c : Int} {b : Int} (h : (b = 1 ∧ 0 ≤ c ∧ c < szM w ∧ rI w 66 c.toNat ≠ 126) ∨ (b = 0 ∧ (c < 0 ∨ szM w ≤ c ∨ rI w 66 c.toNat = 126))) (hb : b ≠ 0) (h0 : 0 ≤ c) : ldM w (c.toNat : Nat) := by
  rcases h with q | q
  · exact ⟨by omega, by omega, by rw [show ((c.toNat : Nat) : Int).toNat = c.toNat by omega]; exact q.2.2.2⟩
  · omega
theorem ldn {w : am_W} {c : Int} {b : Int} (h : (b = 1 ∧ 0 ≤ c ∧ c < szM w ∧ rI w 66 c.toNat ≠ 126) ∨ (b = 0 ∧ (c < 0 ∨ szM w ≤ c ∨ rI w 66 c.toNat = 126))) (hb : b = 0) (h0 : 0 ≤ c) : ¬ ldM w (c.toNat : Nat) := by
  intro ⟨a1, a2, a3⟩
  rw [show ((c.toNat : Nat) : Int).toNat = c.toNat by omega] at a3
  omega
theorem f_alL {d : Nat} {w : am_W} (J : ab_J ab_TT ab_sets ab_WR2 w w) : ∀ (m : Nat) (y : Int64) (c : Int32), (szM w - c.toInt).toNat < m → 0 ≤ c.toInt → c.toInt ≤ szM w → (∀ j : Nat, bt (n64 y) j = 1 ↔ (j : Int) < c.toInt ∧ ldM w j) → aw none (d + 3) 117 (fun r w1 => w = w1 ∧ ∃ y : Int64, r = some (.long y) ∧ ∀ j : Nat, bt (n64 y) j = 1 ↔ ldM w j) (4, [some (.ref 65), some (.long y), none, some (.int c)], []) w := by
  have sz := szM_in J.1
  intro m
  induction m with
  | zero => intro y c p; omega
  | succ m ih =>
    intro y c p1 p2 p3 F
    refine aw_step (f1 := (5, [some (.ref 65), some (.long y), none, some (.int c)], [(.int c)])) (w1 := w) rfl rfl ?_
    refine aw_step (f1 := (6, [some (.ref 65), some (.long y), none, some (.int c)], [(.ref 65), (.int c)])) (w1 := w) rfl rfl ?_
    refine s_cv (z := 113) (p := 65) (as := []) (st1 := [(.int c)]) J 9 rfl rfl rfl rfl rfl rfl rfl rfl (Nat.le_of_ble_eq_true rfl) (Nat.le_of_ble_eq_true rfl) (q_cells J.1) ?_
    rintro _ _ ⟨rfl, x1, rfl, x1t⟩
    refine ⟨rfl, ?_⟩
    show aw none _ 117 _ (9, [some (.ref 65), some (.long y), none, some (.int c)], [(.int x1), (.int c)]) w
    have x1s := szM_in J.1
    refine s_ic 36 12 rfl rfl rfl (fun (h2 : x1.toInt ≤ c.toInt) => ?_) (fun (h2 : ¬ (x1.toInt ≤ c.toInt)) => ?_)
    · --
      refine aw_step (f1 := (37, [some (.ref 65), some (.long y), none, some (.int c)], [(.long y)])) (w1 := w) rfl rfl ?_
      refine aw_ret (v := some (.long y)) rfl rfl ?_
      exact ⟨rfl, y, rfl, fun j => (F j).trans ⟨fun q => q.2, fun q => ⟨by have := q.2.1; omega, q⟩⟩⟩
    · --
      refine aw_step (f1 := (13, [some (.ref 65), some (.long y), none, some (.int c)], [(.long y)])) (w1 := w) rfl rfl ?_
      refine aw_step (f1 := (14, [some (.ref 65), some (.long y), none, some (.int c)], [(.ref 65), (.long y)])) (w1 := w) rfl rfl ?_
      refine aw_step (f1 := (15, [some (.ref 65), some (.long y), none, some (.int c)], [(.int c), (.ref 65), (.long y)])) (w1 := w) rfl rfl ?_
      refine s_cv (z := 115) (p := 65) (as := [(.int c)]) (st1 := [(.long y)]) J 18 rfl rfl rfl rfl rfl rfl rfl rfl (Nat.le_of_ble_eq_true rfl) (Nat.le_of_ble_eq_true rfl) (q_isLand c J.1) ?_
      rintro _ _ ⟨rfl, x3, rfl, x3t⟩
      refine ⟨rfl, ?_⟩
      show aw none _ 117 _ (18, [some (.ref 65), some (.long y), none, some (.int c)], [(.int x3), (.long y)]) w
      have x3s := szM_in J.1
      --
      refine s_if 27 21 rfl rfl rfl (fun (h4 : x3.toInt = 0) => ?_) (fun (h4 : ¬ (x3.toInt = 0)) => ?_)
      · --
        --
        refine s_l (pc1 := 28) (ls1 := [some (.ref 65), some (.long y), none, some (.int c)]) (st1 := [(.long y)]) rfl rfl fun y5 e6 => ?_
        have e6t : y5.toInt = 0 := by rw [e6]; rfl
        --
        refine s_l (pc1 := 29) (ls1 := [some (.ref 65), some (.long y), none, some (.int c)]) (st1 := []) rfl rfl fun y7 e8 => ?_
        have e8 : y7 = y ||| y5 := e8
        refine aw_step (f1 := (30, [some (.ref 65), some (.long y7), none, some (.int c)], [])) (w1 := w) rfl rfl ?_
        refine aw_step (f1 := (33, [some (.ref 65), some (.long y7), none, some (.int (c + Int32.ofInt 1))], [])) (w1 := w) rfl rfl ?_
        obtain ⟨x9, x9e⟩ : ∃ z, z = (c + Int32.ofInt 1) := ⟨_, rfl⟩
        have x9t : x9.toInt = c.toInt + (1) := by rw [x9e]; exact n_add (y := Int32.ofInt (1)) (by show _ ≤ _ + (1 : Int); omega) (by show _ + (1 : Int) ≤ _; omega)
        rw [← x9e]
        refine aw_step (f1 := (4, [some (.ref 65), some (.long y7), none, some (.int x9)], [])) (w1 := w) rfl rfl ?_
        have hb : n64 y5 = 0 := n64_z.mp e6t
        exact ih y7 x9 (by omega) (by omega) (by omega) (by rw [show x9.toInt = c.toInt + 1 by omega]; exact bt_no F (by omega) (ldn x3t (by omega) (by omega)) (by rw [e8, n64_or, hb]))
      · --
        refine s_l (pc1 := 22) (ls1 := [some (.ref 65), some (.long y), none, some (.int c)]) (st1 := [(.long y)]) rfl rfl fun y10 e11 => ?_
        have e11t : y10.toInt = 1 := by rw [e11]; rfl
        --
        refine aw_step (f1 := (23, [some (.ref 65), some (.long y), none, some (.int c)], [(.int c), (.long y10), (.long y)])) (w1 := w) rfl rfl ?_
        refine s_l (pc1 := 24) (ls1 := [some (.ref 65), some (.long y), none, some (.int c)]) (st1 := [(.long y)]) rfl rfl fun y12 e13 => ?_
        have e13 : y12 = y10 <<< (c.toInt64 &&& 63) := e13
        refine aw_step (f1 := (28, [some (.ref 65), some (.long y), none, some (.int c)], [(.long y12), (.long y)])) (w1 := w) rfl rfl ?_
        --
        refine s_l (pc1 := 29) (ls1 := [some (.ref 65), some (.long y), none, some (.int c)]) (st1 := []) rfl rfl fun y14 e15 => ?_
        have e15 : y14 = y ||| y12 := e15
        refine aw_step (f1 := (30, [some (.ref 65), some (.long y14), none, some (.int c)], [])) (w1 := w) rfl rfl ?_
        refine aw_step (f1 := (33, [some (.ref 65), some (.long y14), none, some (.int (c + Int32.ofInt 1))], [])) (w1 := w) rfl rfl ?_
        obtain ⟨x16, x16e⟩ : ∃ z, z = (c + Int32.ofInt 1) := ⟨_, rfl⟩
        have x16t : x16.toInt = c.toInt + (1) := by rw [x16e]; exact n_add (y := Int32.ofInt (1)) (by show _ ≤ _ + (1 : Int); omega) (by show _ + (1 : Int) ≤ _; omega)
        rw [← x16e]
        refine aw_step (f1 := (4, [some (.ref 65), some (.long y14), none, some (.int x16)], [])) (w1 := w) rfl rfl ?_
        have hb : n64 y12 = 2 ^ c.toInt.toNat := by rw [e13]; exact n64_shl (by omega) (by omega) e11t
        exact ih y14 x16 (by omega) (by omega) (by omega) (by rw [show x16.toInt = c.toInt + 1 by omega]; exact bt_ye F (by omega) (ldy x3t (by omega) (by omega)) (by rw [e15, n64_or, hb]))
theorem f_allLand {d : Nat} {w : am_W} (I : ab_inv ab_TT ab_sets w) : aw none (d + 3) 117 (fun r w1 => w = w1 ∧ ∃ y : Int64, r = some (.long y) ∧ ∀ j : Nat, bt (n64 y) j = 1 ↔ ldM w j) (0, am_entry 117 [.ref 65], []) w := by
  have J : ab_J ab_TT ab_sets ab_WR2 w w := ⟨I, ab_fr.rf⟩
  have sz := szM_in I
  show aw none (d + 3) 117 _ (0, [some (.ref 65), none, none, none], []) w
  refine s_l (pc1 := 1) (ls1 := [some (.ref 65), none, none, none]) (st1 := []) rfl rfl fun y1 e2 => ?_
  have e2t : y1.toInt = 0 := by rw [e2]; rfl
  refine aw_step (f1 := (2, [some (.ref 65), some (.long y1), none, none], [])) (w1 := w) rfl rfl ?_
  refine s_i (pc1 := 3) (ls1 := [some (.ref 65), some (.long y1), none, none]) (st1 := []) rfl rfl fun x3 e4 => ?_
  have e4t : x3.toInt = 0 := by rw [e4]; rfl
  refine aw_step (f1 := (4, [some (.ref 65), some (.long y1), none, some (.int x3)], [])) (w1 := w) rfl rfl ?_
  exact f_alL J 37 y1 x3 (by omega) (by omega) (by omega) (fun j => ⟨fun q => by rw [n64_z.mp e2t, bt_z] at q; omega, fun q => by omega⟩)
noncomputable def cpV (V P : Nat → Int) (m : Int) : Nat → Int := fun j => if 40 ≤ j ∧ (j : Int) < 40 + m then P (j - 40) else V j
theorem cpV_s {V P : Nat → Int} {m : Int} (h : 0 ≤ m) : upv (cpV V P m) (40 + m.toNat) (P m.toNat) = cpV V P (m + 1) := funext fun j => by
  unfold upv cpV
  by_cases e : j = 40 + m.toNat
  · rw [if_pos e, if_pos (by omega), e, show 40 + m.toNat - 40 = m.toNat by omega]
  · rw [if_neg e]
    by_cases q : 40 ≤ j ∧ (j : Int) < 40 + m
    · rw [if_pos q, if_pos (by omega)]
    · rw [if_neg q, if_neg (by omega)]
theorem lyV_e {V P : Nat → Int} {h : Int} (j : Nat) : lyV V P h j = fgV (cpV V P (szV V)) h j := by
  show _ = (if j = 7 then 0 else if j = 6 then 0 else if j = 3 then 0 else if j = 2 then h else if 40 ≤ j ∧ (j : Int) < 40 + szV V then P (j - 40) else V j)
  unfold lyV
  by_cases a7 : j = 7
  · rw [if_neg (by omega), if_pos (by omega), if_pos a7]
  · rw [if_neg a7]
    by_cases a6 : j = 6
    · rw [if_neg (by omega), if_pos (by omega), if_pos a6]
    · rw [if_neg a6]
      by_cases a3 : j = 3
      · rw [if_neg (by omega), if_pos (by omega), if_pos a3]
      · rw [if_neg a3]
        by_cases a2 : j = 2
        · rw [if_pos a2, if_pos a2]
        · rw [if_neg a2, if_neg a2, if_neg (by omega)]
          by_cases q : 40 ≤ j ∧ (j : Int) - 40 < szV V
          · rw [if_pos q, if_pos (by omega)]
          · rw [if_neg q, if_neg (by omega)]
theorem f_layB {d : Nat} {w00 : am_W} {V P : Nat → Int} {n : Int} (ok : okP n P V) (hz : 1 ≤ szV V ∧ szV V ≤ 36) (fi : Int32) (fr : frst P (szV V) fi.toInt) : ∀ (m : Nat) (w : am_W) (c : Int32), (n - c.toInt).toNat < m → 0 ≤ c.toInt → c.toInt ≤ n → ab_J ab_TT ab_sets ab_WR2 w00 w → RMs w (cpV V P c.toInt) → RMp w n P → only mL w00 w → aw none (d + 4) 124 (fun r w1 => ab_inv ab_TT ab_sets w1 ∧ only mL w00 w1 ∧ ∃ b : Int32, r = some (.int b) ∧ ∃ V' n', RMs w1 V' ∧ RMp w1 n' P ∧ layP V n P b.toInt V' n') (56, [some (.ref 65), some (.int fi), some (.int c)], []) w := by
  have hf := fr.1
  have hn := ok.1
  intro m
  induction m with
  | zero => intro w c p; omega
  | succ m ih =>
    intro w c p1 p2 p3 J R RP O
    have rn := RP.1
    refine aw_step (f1 := (57, [some (.ref 65), some (.int fi), some (.int c)], [(.int c)])) (w1 := w) rfl rfl ?_
    refine aw_step (f1 := (58, [some (.ref 65), some (.int fi), some (.int c)], [(.ref 65), (.int c)])) (w1 := w) rfl rfl ?_
    refine s_gi J 61 rfl rfl rfl rfl rfl rfl fun x1 x1a x1b x1f => ?_
    have x1v : x1.toInt = fI w 65 16 := by rw [← fI_of x1f]
    refine s_ic 82 64 rfl rfl rfl (fun (h2 : x1.toInt ≤ c.toInt) => ?_) (fun (h2 : ¬ (x1.toInt ≤ c.toInt)) => ?_)
    · --
      refine aw_step (f1 := (83, [some (.ref 65), some (.int fi), some (.int c)], [(.ref 65)])) (w1 := w) rfl rfl ?_
      refine aw_step (f1 := (84, [some (.ref 65), some (.int fi), some (.int c)], [(.int fi), (.ref 65)])) (w1 := w) rfl rfl ?_
      refine s_cv (z := 112) (p := 65) (as := [(.int fi)]) (st1 := []) J 87 rfl rfl rfl rfl rfl rfl rfl rfl (Nat.le_of_ble_eq_true rfl) (Nat.le_of_ble_eq_true rfl) (f_forgetAll R fi ⟨by omega, by omega⟩ J.1) ?_
      rintro _ w3 ⟨rfl, J4c, w3R, w3o, w3n⟩
      have J4 := J.trans J4c
      refine ⟨am_len2 J J4c, ?_⟩
      show aw none _ 124 _ (87, [some (.ref 65), some (.int fi), some (.int c)], []) w3
      refine aw_step (f1 := (88, [some (.ref 65), some (.int fi), some (.int c)], [(.ref 65)])) (w1 := w3) rfl rfl ?_
      refine s_i (pc1 := 89) (ls1 := [some (.ref 65), some (.int fi), some (.int c)]) (st1 := [(.ref 65)]) rfl rfl fun x5 e6 => ?_
      have e6t : x5.toInt = 0 := by rw [e6]; rfl
      refine s_pi J4 92 rfl rfl rfl rfl rfl rfl rfl (by omega) (by omega) fun w7 J8 w7e => ?_
      have w7f := fv_st J4.1 (p := 65) (kf := 16) rfl (by decide) w7e
      refine aw_step (f1 := (93, [some (.ref 65), some (.int fi), some (.int c)], [(.ref 65)])) (w1 := w7) rfl rfl ?_
      refine s_cv (z := 117) (p := 65) (as := []) (st1 := []) J8 96 rfl rfl rfl rfl rfl rfl rfl rfl (Nat.le_of_ble_eq_true rfl) (Nat.le_of_ble_eq_true rfl) (f_allLand J8.1) ?_
      rintro _ _ ⟨rfl, y9, rfl, y9t⟩
      refine ⟨rfl, ?_⟩
      show aw none _ 124 _ (96, [some (.ref 65), some (.int fi), some (.int c)], [(.long y9)]) w7
      --
      refine s_cs (z := 109) (as := [(.long y9)]) (st1 := []) 99 rfl rfl rfl rfl rfl rfl (Nat.le_of_ble_eq_true rfl) (Nat.le_of_ble_eq_true rfl) (Nat.le_of_ble_eq_true rfl) (q_ones y9) ?_
      rintro _ _ ⟨rfl, x10, rfl, x10t⟩
      refine ⟨rfl, ?_⟩
      show aw none _ 124 _ (99, [some (.ref 65), some (.int fi), some (.int c)], [(.int x10)]) w7
      have x10c := cnt_le (n64 y9) 64
      refine aw_ret (v := some (.int x10)) rfl rfl ?_
      have R3 := RMs.pad w3R w7f
      rw [show c.toInt = szV V by have := ok.1; omega] at R3
      have R4 : RMs w7 (lyV V P fi.toInt) := R3.setc fun j _ => lyV_e j
      have z4 : szM w7 = szV V := R4.sz.trans lyV_z
      refine ⟨J8.1, (O.trans (w3o.sub (by decide))).trans (w7f.1.sub (by decide)), x10, rfl, _, _, R4, ⟨by rw [fI_of w7f.2.1], fun j => by rw [w7f.1.rIe (by decide), w3o.rIe (by decide)]; exact RP.2 j⟩, Or.inr (Or.inr ⟨ok, by omega, _, _, fr, rfl, fun c => ?_, x10t⟩)⟩
      rw [y9t c]
      unfold ldM
      rw [z4]
      constructor
      · intro q
        have q3 := q.2.2
        rw [R4.rc (i := ((c : Nat) : Int).toNat) (by omega), show ((c : Nat) : Int).toNat = c by omega, lyV_c q.2.1] at q3
        exact ⟨q.2.1, q3⟩
      · intro q
        refine ⟨by omega, q.1, ?_⟩
        rw [R4.rc (i := ((c : Nat) : Int).toNat) (by omega), show ((c : Nat) : Int).toNat = c by omega, lyV_c q.1]
        exact q.2
    · --
      refine aw_step (f1 := (65, [some (.ref 65), some (.int fi), some (.int c)], [(.ref 65)])) (w1 := w) rfl rfl ?_
      refine s_gr 66 J 68 rfl rfl rfl rfl rfl rfl ?_
      refine aw_step (f1 := (69, [some (.ref 65), some (.int fi), some (.int c)], [(.int c), (.ref 66)])) (w1 := w) rfl rfl ?_
      refine aw_step (f1 := (70, [some (.ref 65), some (.int fi), some (.int c)], [(.ref 65), (.int c), (.ref 66)])) (w1 := w) rfl rfl ?_
      refine s_gr 73 J 73 rfl rfl rfl rfl rfl rfl ?_
      refine aw_step (f1 := (74, [some (.ref 65), some (.int fi), some (.int c)], [(.int c), (.ref 73), (.int c), (.ref 66)])) (w1 := w) rfl rfl ?_
      refine s_ia J 75 rfl rfl rfl rfl (by omega) (by omega) fun x11 x11a x11b x11f => ?_
      have x11v : x11.toInt = rI w 73 c.toInt.toNat := by rw [← rI_of x11f]
      refine s_is J 76 rfl rfl rfl rfl (by omega) (by omega) (by omega) (by omega) fun w12 J13 w12e => ?_
      have w12f := rI_st J.1 (p := 66) (j := c.toInt.toNat) rfl (by omega) w12e
      refine aw_step (f1 := (79, [some (.ref 65), some (.int fi), some (.int (c + Int32.ofInt 1))], [])) (w1 := w12) rfl rfl ?_
      obtain ⟨x14, x14e⟩ : ∃ z, z = (c + Int32.ofInt 1) := ⟨_, rfl⟩
      have x14t : x14.toInt = c.toInt + (1) := by rw [x14e]; exact n_add (y := Int32.ofInt (1)) (by show _ ≤ _ + (1 : Int); omega) (by show _ + (1 : Int) ≤ _; omega)
      rw [← x14e]
      refine aw_step (f1 := (56, [some (.ref 65), some (.int fi), some (.int x14)], [])) (w1 := w12) rfl rfl ?_
      have R1 := R.rowc (i := c.toInt.toNat) (by omega) w12f
      rw [show x11.toInt = P c.toInt.toNat by rw [← RP.2, x11v], cpV_s (by omega)] at R1
      exact ih w12 x14 (by omega) (by omega) (by omega) J13 (by rw [show x14.toInt = c.toInt + 1 by omega]; exact R1) ⟨by rw [w12f.1.fIe (by decide)]; exact RP.1, fun j => by rw [w12f.1.rIe (by decide)]; exact RP.2 j⟩ (O.trans (w12f.1.sub (by decide)))
/-- the first that is no sea, from above -/
noncomputable def laI (P : Nat → Int) (n f c : Int) : Prop := (f = -6 ∧ ∀ j : Nat, c < (j : Int) → (j : Int) < n → P j = 126) ∨ ((c < f ∧ f < n) ∧ P f.toNat ≠ 126 ∧ ∀ j : Nat, c < (j : Int) → (j : Int) < f → P j = 126)
theorem laI.st {P : Nat → Int} {n f c f' c' : Int} (h : laI P n f c) (h0 : 0 ≤ c ∧ c < n) (e : c' = c - 1) (q : (P c.toNat ≠ 126 ∧ f' = c) ∨ (P c.toNat = 126 ∧ f' = f)) : laI P n f' c' := by
  have at_ : ∀ j : Nat, c' < (j : Int) → j = c.toNat ∨ c < (j : Int) := fun j hj => by omega
  rcases q with ⟨q1, q2⟩ | ⟨q1, q2⟩
  · refine Or.inr ⟨by omega, by rw [q2]; exact q1, fun j h1 h2 => ?_⟩
    rcases at_ j h1 with z | z
    · omega
    · omega
  · rcases h with ⟨a, b⟩ | ⟨a, b, g⟩
    · refine Or.inl ⟨by omega, fun j h1 h2 => ?_⟩
      rcases at_ j h1 with z | z
      · rw [z]; exact q1
      · exact b j z h2
    · refine Or.inr ⟨by omega, by rw [q2]; exact b, fun j h1 h2 => ?_⟩
      rcases at_ j h1 with z | z
      · rw [z]; exact q1
      · exact g j z (by omega)
theorem f_layA {d : Nat} {w : am_W} {V P : Nat → Int} {n : Int} (J : ab_J ab_TT ab_sets ab_WR2 w w) (R : RMs w V) (RP : RMp w n P) (ok : okP n P V) (hz : 1 ≤ szV V ∧ szV V ≤ 36) : ∀ (m : Nat) (fi c : Int32), (c.toInt + 1).toNat < m → -1 ≤ c.toInt → c.toInt < n → laI P n fi.toInt c.toInt → aw none (d + 4) 124 (fun r w1 => ab_inv ab_TT ab_sets w1 ∧ only mL w w1 ∧ ∃ b : Int32, r = some (.int b) ∧ ∃ V' n', RMs w1 V' ∧ RMp w1 n' P ∧ layP V n P b.toInt V' n') (20, [some (.ref 65), some (.int fi), some (.int c)], []) w := by
  have hn := ok.1
  have rn := RP.1
  intro m
  induction m with
  | zero => intro fi c p; omega
  | succ m ih =>
    intro fi c p1 p2 p3 F
    have F2 := F
    unfold laI at F2
    refine aw_step (f1 := (21, [some (.ref 65), some (.int fi), some (.int c)], [(.int c)])) (w1 := w) rfl rfl ?_
    refine s_if 47 24 rfl rfl rfl (fun (h1 : c.toInt < 0) => ?_) (fun (h1 : ¬ (c.toInt < 0)) => ?_)
    · --
      refine aw_step (f1 := (48, [some (.ref 65), some (.int fi), some (.int c)], [(.int fi)])) (w1 := w) rfl rfl ?_
      refine s_if 54 51 rfl rfl rfl (fun (h2 : 0 ≤ fi.toInt) => ?_) (fun (h2 : ¬ (0 ≤ fi.toInt)) => ?_)
      · --
        refine s_i (pc1 := 55) (ls1 := [some (.ref 65), some (.int fi), some (.int c)]) (st1 := []) rfl rfl fun x3 e4 => ?_
        have e4t : x3.toInt = 0 := by rw [e4]; rfl
        refine aw_step (f1 := (56, [some (.ref 65), some (.int fi), some (.int x3)], [])) (w1 := w) rfl rfl ?_
        have fr : frst P (szV V) fi.toInt := by
          rcases F with q | q
          · omega
          · exact ⟨by omega, q.2.1, fun j hj => q.2.2 j (by omega) hj⟩
        exact f_layB ok hz fi fr 61 w x3 (by omega) (by omega) (by omega) J (R.setc fun j _ => by unfold cpV; rw [if_neg (by omega)]) RP only.rf
      · --
        refine s_i (pc1 := 53) (ls1 := [some (.ref 65), some (.int fi), some (.int c)]) (st1 := []) rfl rfl fun x5 e6 => ?_
        have e6t : x5.toInt = -3 := by rw [e6]; rfl
        refine aw_ret (v := some (.int x5)) rfl rfl ?_
        exact ⟨J.1, only.rf, x5, rfl, _, _, R, RP, Or.inr (Or.inl ⟨by omega, ok, fun j hj => (F.resolve_right (fun q => by omega)).2 j (by omega) hj, rfl, rfl⟩)⟩
    · --
      refine aw_step (f1 := (25, [some (.ref 65), some (.int fi), some (.int c)], [(.ref 65)])) (w1 := w) rfl rfl ?_
      refine s_gr 73 J 28 rfl rfl rfl rfl rfl rfl ?_
      refine aw_step (f1 := (29, [some (.ref 65), some (.int fi), some (.int c)], [(.int c), (.ref 73)])) (w1 := w) rfl rfl ?_
      refine s_ia J 30 rfl rfl rfl rfl (by omega) (by omega) fun x7 x7a x7b x7f => ?_
      have x7v : x7.toInt = rI w 73 c.toInt.toNat := by rw [← rI_of x7f]
      refine s_i (pc1 := 32) (ls1 := [some (.ref 65), some (.int fi), some (.int c)]) (st1 := [(.int x7)]) rfl rfl fun x8 e9 => ?_
      have e9t : x8.toInt = 126 := by rw [e9]; rfl
      refine s_ic 39 35 rfl rfl rfl (fun (h10 : x7.toInt = x8.toInt) => ?_) (fun (h10 : ¬ (x7.toInt = x8.toInt)) => ?_)
      · --
        refine aw_step (f1 := (40, [some (.ref 65), some (.int fi), some (.int c)], [(.int fi)])) (w1 := w) rfl rfl ?_
        refine aw_step (f1 := (41, [some (.ref 65), some (.int fi), some (.int c)], [])) (w1 := w) rfl rfl ?_
        refine aw_step (f1 := (44, [some (.ref 65), some (.int fi), some (.int (c + Int32.ofInt (-1)))], [])) (w1 := w) rfl rfl ?_
        obtain ⟨x11, x11e⟩ : ∃ z, z = (c + Int32.ofInt (-1)) := ⟨_, rfl⟩
        have x11t : x11.toInt = c.toInt + (-1) := by rw [x11e]; exact n_add (y := Int32.ofInt (-1)) (by show _ ≤ _ + (-1 : Int); omega) (by show _ + (-1 : Int) ≤ _; omega)
        rw [← x11e]
        refine aw_step (f1 := (20, [some (.ref 65), some (.int fi), some (.int x11)], [])) (w1 := w) rfl rfl ?_
        exact ih fi x11 (by omega) (by omega) (by omega) (F.st ⟨by omega, by omega⟩ (by omega) (by rw [← RP.2]; omega))
      · --
        refine aw_step (f1 := (36, [some (.ref 65), some (.int fi), some (.int c)], [(.int c)])) (w1 := w) rfl rfl ?_
        refine aw_step (f1 := (40, [some (.ref 65), some (.int fi), some (.int c)], [(.int c)])) (w1 := w) rfl rfl ?_
        refine aw_step (f1 := (41, [some (.ref 65), some (.int c), some (.int c)], [])) (w1 := w) rfl rfl ?_
        refine aw_step (f1 := (44, [some (.ref 65), some (.int c), some (.int (c + Int32.ofInt (-1)))], [])) (w1 := w) rfl rfl ?_
        obtain ⟨x12, x12e⟩ : ∃ z, z = (c + Int32.ofInt (-1)) := ⟨_, rfl⟩
        have x12t : x12.toInt = c.toInt + (-1) := by rw [x12e]; exact n_add (y := Int32.ofInt (-1)) (by show _ ≤ _ + (-1 : Int); omega) (by show _ + (-1 : Int) ≤ _; omega)
        rw [← x12e]
        refine aw_step (f1 := (20, [some (.ref 65), some (.int c), some (.int x12)], [])) (w1 := w) rfl rfl ?_
        exact ih c x12 (by omega) (by omega) (by omega) (F.st ⟨by omega, by omega⟩ (by omega) (by rw [← RP.2]; omega))
theorem f_lay {d : Nat} {w : am_W} {V P : Nat → Int} {n : Int} (R : RMs w V) (RP : RMp w n P) (I : ab_inv ab_TT ab_sets w) : aw none (d + 4) 124 (fun r w1 => ab_inv ab_TT ab_sets w1 ∧ only mL w w1 ∧ ∃ b : Int32, r = some (.int b) ∧ ∃ V' n', RMs w1 V' ∧ RMp w1 n' P ∧ layP V n P b.toInt V' n') (0, am_entry 124 [.ref 65], []) w := by
  have J : ab_J ab_TT ab_sets ab_WR2 w w := ⟨I, ab_fr.rf⟩
  have sz := szM_in I
  have hs := R.sz
  have rn := RP.1
  have nb := fI_in (p := 65) (k := 16) I rfl rfl
  show aw none (d + 4) 124 _ (0, [some (.ref 65), none, none], []) w
  refine aw_step (f1 := (1, [some (.ref 65), none, none], [(.ref 65)])) (w1 := w) rfl rfl ?_
  refine s_cv (z := 121) (p := 65) (as := []) (st1 := []) J 4 rfl rfl rfl rfl rfl rfl rfl rfl (Nat.le_of_ble_eq_true rfl) (Nat.le_of_ble_eq_true rfl) (q_faultOfLand J.1) ?_
  rintro _ _ ⟨rfl, x1, rfl, x1t⟩
  refine ⟨rfl, ?_⟩
  show aw none _ 124 _ (4, [some (.ref 65), none, none], [(.int x1)]) w
  have fo := fltL_ok (P := P) (V := V) (z := x1.toInt) (by have q := x1t; rw [show rI w 73 = P from funext RP.2, R.sz, RP.1] at q; exact q) (by omega) (by omega)
  refine s_if 10 7 rfl rfl rfl (fun (h2 : x1.toInt < 0) => ?_) (fun (h2 : ¬ (x1.toInt < 0)) => ?_)
  · --
    refine s_i (pc1 := 12) (ls1 := [some (.ref 65), none, none]) (st1 := []) rfl rfl fun x3 e4 => ?_
    have e4t : x3.toInt = -6 := by rw [e4]; rfl
    refine aw_step (f1 := (13, [some (.ref 65), some (.int x3), none], [])) (w1 := w) rfl rfl ?_
    refine aw_step (f1 := (14, [some (.ref 65), some (.int x3), none], [(.ref 65)])) (w1 := w) rfl rfl ?_
    refine s_gi J 17 rfl rfl rfl rfl rfl rfl fun x5 x5a x5b x5f => ?_
    have x5v : x5.toInt = fI w 65 16 := by rw [← fI_of x5f]
    refine s_i (pc1 := 18) (ls1 := [some (.ref 65), some (.int x3), none]) (st1 := [(.int x5)]) rfl rfl fun x6 e7 => ?_
    have e7t : x6.toInt = 1 := by rw [e7]; rfl
    refine s_i (pc1 := 19) (ls1 := [some (.ref 65), some (.int x3), none]) (st1 := []) rfl rfl fun x8 e9 => ?_
    have e9 : x8 = x5 - x6 := e9
    have e9t : x8.toInt = x5.toInt - x6.toInt := by rw [e9]; exact n_sub (by omega) (by omega)
    refine aw_step (f1 := (20, [some (.ref 65), some (.int x3), some (.int x8)], [])) (w1 := w) rfl rfl ?_
    have ok : okP n P V := by
      rcases fo with q | q
      · exact q.2
      · omega
    exact f_layA J R RP ok ⟨by omega, by omega⟩ 62 x3 x8 (by omega) (by omega) (by omega) (Or.inl ⟨by omega, fun j a b => by omega⟩)
  · --
    refine s_i (pc1 := 9) (ls1 := [some (.ref 65), none, none]) (st1 := []) rfl rfl fun x10 e11 => ?_
    have e11t : x10.toInt = -5 := by rw [e11]; rfl
    refine aw_ret (v := some (.int x10)) rfl rfl ?_
    rcases fo with fo | fo
    · exfalso; omega
    · exact ⟨J.1, only.rf, x10, rfl, _, _, R, RP, Or.inl ⟨by omega, fo.2, rfl, rfl⟩⟩
