/-! ===== changed ===== -/
theorem q_chI {d : Nat} {Q : Option Value → am_W → Prop} {w00 : am_W} {z s0 : Int} (k c ba : Int32) (hk : 0 ≤ k.toInt ∧ k.toInt < 72) (hc : 0 ≤ c.toInt ∧ c.toInt < 36) (hb : ba.toInt = 0 ∨ ba.toInt = 36) (K : ∀ (w : am_W) (more : Int32) (o5 o6 o7 : Option Value), ab_J ab_TT ab_sets ab_WR w00 w → szM w = z → ((more.toInt = 1 ∧ sC w < s0) ∨ (more.toInt = 0 ∧ sC w ≤ s0)) → aw none (d + 3) 149 Q (180, [some (.ref 65), some (.int more), some (.int k), some (.int c), some (.int ba), o5, o6, o7], []) w) : ∀ (m : Nat) (w : am_W) (more dd : Int32) (o6 o7 : Option Value), (z - dd.toInt).toNat < m → 0 ≤ dd.toInt → dd.toInt ≤ z → ab_J ab_TT ab_sets ab_WR w00 w → szM w = z → ((more.toInt = 1 ∧ sC w < s0) ∨ (more.toInt = 0 ∧ sC w ≤ s0)) → aw none (d + 3) 149 Q (89, [some (.ref 65), some (.int more), some (.int k), some (.int c), some (.int ba), some (.int dd), o6, o7], []) w := by
  intro m
  induction m with
  | zero => intro w more dd o6 o7 p; omega
  | succ m ih =>
    intro w more dd o6 o7 p1 p2 p3 J zz R
    have sz := szM_in J.1
    refine aw_step (f1 := (91, [some (.ref 65), some (.int more), some (.int k), some (.int c), some (.int ba), some (.int dd), o6, o7], [(.int dd)])) (w1 := w) rfl rfl ?_
    refine aw_step (f1 := (92, [some (.ref 65), some (.int more), some (.int k), some (.int c), some (.int ba), some (.int dd), o6, o7], [(.ref 65), (.int dd)])) (w1 := w) rfl rfl ?_
    refine s_cv (z := 113) (p := 65) (as := []) (st1 := [(.int dd)]) J 95 rfl rfl rfl rfl rfl rfl rfl rfl (Nat.le_of_ble_eq_true rfl) (Nat.le_of_ble_eq_true rfl) (q_cells J.1) ?_
    rintro _ _ ⟨rfl, x1, rfl, x1t⟩
    refine ⟨rfl, ?_⟩
    show aw none _ 149 _ (95, [some (.ref 65), some (.int more), some (.int k), some (.int c), some (.int ba), some (.int dd), o6, o7], [(.int x1), (.int dd)]) w
    have x1s := szM_in J.1
    refine s_ic 180 98 rfl rfl rfl (fun (h2 : x1.toInt ≤ dd.toInt) => ?_) (fun (h2 : ¬ (x1.toInt ≤ dd.toInt)) => ?_)
    · --
      exact K w more _ _ _ J zz R
    · --
      refine aw_step (f1 := (100, [some (.ref 65), some (.int more), some (.int k), some (.int c), some (.int ba), some (.int dd), o6, o7], [(.int ba)])) (w1 := w) rfl rfl ?_
      refine s_if 112 103 rfl rfl rfl (fun (h3 : ¬ ba.toInt = 0) => ?_) (fun (h3 : ¬ (¬ ba.toInt = 0)) => ?_)
      · --
        refine aw_step (f1 := (113, [some (.ref 65), some (.int more), some (.int k), some (.int c), some (.int ba), some (.int dd), o6, o7], [(.ref 65)])) (w1 := w) rfl rfl ?_
        refine s_gr 75 J 116 rfl rfl rfl rfl rfl rfl ?_
        refine aw_step (f1 := (117, [some (.ref 65), some (.int more), some (.int k), some (.int c), some (.int ba), some (.int dd), o6, o7], [(.int c), (.ref 75)])) (w1 := w) rfl rfl ?_
        refine s_la J 118 rfl rfl rfl (by omega) (by omega) fun y4 y4a y4b y4f => ?_
        refine aw_step (f1 := (120, [some (.ref 65), some (.int more), some (.int k), some (.int c), some (.int ba), some (.int dd), o6, o7], [(.int dd), (.long y4)])) (w1 := w) rfl rfl ?_
        refine s_cs (z := 110) (as := [(.long y4), (.int dd)]) (st1 := []) 123 rfl rfl rfl rfl rfl rfl (Nat.le_of_ble_eq_true rfl) (Nat.le_of_ble_eq_true rfl) (Nat.le_of_ble_eq_true rfl) (q_has y4 dd (by omega) (by omega)) ?_
        rintro _ _ ⟨rfl, x5, rfl, x5t⟩
        refine ⟨rfl, ?_⟩
        show aw none _ 149 _ (123, [some (.ref 65), some (.int more), some (.int k), some (.int c), some (.int ba), some (.int dd), o6, o7], [(.int x5)]) w
        have x5l := bt_le (n64 y4) dd.toInt.toNat
        refine aw_step (f1 := (125, [some (.ref 65), some (.int more), some (.int k), some (.int c), some (.int ba), some (.int dd), some (.int x5), o7], [])) (w1 := w) rfl rfl ?_
        refine aw_step (f1 := (127, [some (.ref 65), some (.int more), some (.int k), some (.int c), some (.int ba), some (.int dd), some (.int x5), o7], [(.int x5)])) (w1 := w) rfl rfl ?_
        refine s_if 156 130 rfl rfl rfl (fun (h6 : x5.toInt = 0) => ?_) (fun (h6 : ¬ (x5.toInt = 0)) => ?_)
        · --
          refine s_i (pc1 := 157) (ls1 := [some (.ref 65), some (.int more), some (.int k), some (.int c), some (.int ba), some (.int dd), some (.int x5), o7]) (st1 := []) rfl rfl fun x7 e8 => ?_
          have e8t : x7.toInt = 0 := by rw [e8]; rfl
          refine aw_step (f1 := (159, [some (.ref 65), some (.int more), some (.int k), some (.int c), some (.int ba), some (.int dd), some (.int x5), some (.int x7)], [])) (w1 := w) rfl rfl ?_
          refine aw_step (f1 := (160, [some (.ref 65), some (.int more), some (.int k), some (.int c), some (.int ba), some (.int dd), some (.int x5), some (.int x7)], [(.int more)])) (w1 := w) rfl rfl ?_
          refine s_if 168 163 rfl rfl rfl (fun (h9 : ¬ more.toInt = 0) => ?_) (fun (h9 : ¬ (¬ more.toInt = 0)) => ?_)
          · --
            refine s_i (pc1 := 169) (ls1 := [some (.ref 65), some (.int more), some (.int k), some (.int c), some (.int ba), some (.int dd), some (.int x5), some (.int x7)]) (st1 := []) rfl rfl fun x10 e11 => ?_
            have e11t : x10.toInt = 1 := by rw [e11]; rfl
            refine aw_step (f1 := (173, [some (.ref 65), some (.int more), some (.int k), some (.int c), some (.int ba), some (.int dd), some (.int x5), some (.int x7)], [(.int x10)])) (w1 := w) rfl rfl ?_
            refine aw_step (f1 := (174, [some (.ref 65), some (.int x10), some (.int k), some (.int c), some (.int ba), some (.int dd), some (.int x5), some (.int x7)], [])) (w1 := w) rfl rfl ?_
            refine aw_step (f1 := (177, [some (.ref 65), some (.int x10), some (.int k), some (.int c), some (.int ba), some (.int (dd + Int32.ofInt 1)), some (.int x5), some (.int x7)], [])) (w1 := w) rfl rfl ?_
            obtain ⟨x12, x12e⟩ : ∃ z, z = (dd + Int32.ofInt 1) := ⟨_, rfl⟩
            have x12t : x12.toInt = dd.toInt + (1) := by rw [x12e]; exact n_add (y := Int32.ofInt (1)) (by show _ ≤ _ + (1 : Int); omega) (by show _ + (1 : Int) ≤ _; omega)
            rw [← x12e]
            refine aw_step (f1 := (89, [some (.ref 65), some (.int x10), some (.int k), some (.int c), some (.int ba), some (.int x12), some (.int x5), some (.int x7)], [])) (w1 := w) rfl rfl ?_
            exact ih w x10 x12 _ _ (by omega) (by omega) (by omega) J (by omega) (by omega)
          · --
            refine aw_step (f1 := (165, [some (.ref 65), some (.int more), some (.int k), some (.int c), some (.int ba), some (.int dd), some (.int x5), some (.int x7)], [(.int x7)])) (w1 := w) rfl rfl ?_
            refine s_if 172 168 rfl rfl rfl (fun (h13 : x7.toInt = 0) => ?_) (fun (h13 : ¬ (x7.toInt = 0)) => ?_)
            · --
              refine s_i (pc1 := 173) (ls1 := [some (.ref 65), some (.int more), some (.int k), some (.int c), some (.int ba), some (.int dd), some (.int x5), some (.int x7)]) (st1 := []) rfl rfl fun x14 e15 => ?_
              have e15t : x14.toInt = 0 := by rw [e15]; rfl
              refine aw_step (f1 := (174, [some (.ref 65), some (.int x14), some (.int k), some (.int c), some (.int ba), some (.int dd), some (.int x5), some (.int x7)], [])) (w1 := w) rfl rfl ?_
              refine aw_step (f1 := (177, [some (.ref 65), some (.int x14), some (.int k), some (.int c), some (.int ba), some (.int (dd + Int32.ofInt 1)), some (.int x5), some (.int x7)], [])) (w1 := w) rfl rfl ?_
              obtain ⟨x16, x16e⟩ : ∃ z, z = (dd + Int32.ofInt 1) := ⟨_, rfl⟩
              have x16t : x16.toInt = dd.toInt + (1) := by rw [x16e]; exact n_add (y := Int32.ofInt (1)) (by show _ ≤ _ + (1 : Int); omega) (by show _ + (1 : Int) ≤ _; omega)
              rw [← x16e]
              refine aw_step (f1 := (89, [some (.ref 65), some (.int x14), some (.int k), some (.int c), some (.int ba), some (.int x16), some (.int x5), some (.int x7)], [])) (w1 := w) rfl rfl ?_
              exact ih w x14 x16 _ _ (by omega) (by omega) (by omega) J (by omega) (by omega)
            · --
              refine s_i (pc1 := 169) (ls1 := [some (.ref 65), some (.int more), some (.int k), some (.int c), some (.int ba), some (.int dd), some (.int x5), some (.int x7)]) (st1 := []) rfl rfl fun x17 e18 => ?_
              have e18t : x17.toInt = 1 := by rw [e18]; rfl
              refine aw_step (f1 := (173, [some (.ref 65), some (.int more), some (.int k), some (.int c), some (.int ba), some (.int dd), some (.int x5), some (.int x7)], [(.int x17)])) (w1 := w) rfl rfl ?_
              refine aw_step (f1 := (174, [some (.ref 65), some (.int x17), some (.int k), some (.int c), some (.int ba), some (.int dd), some (.int x5), some (.int x7)], [])) (w1 := w) rfl rfl ?_
              refine aw_step (f1 := (177, [some (.ref 65), some (.int x17), some (.int k), some (.int c), some (.int ba), some (.int (dd + Int32.ofInt 1)), some (.int x5), some (.int x7)], [])) (w1 := w) rfl rfl ?_
              obtain ⟨x19, x19e⟩ : ∃ z, z = (dd + Int32.ofInt 1) := ⟨_, rfl⟩
              have x19t : x19.toInt = dd.toInt + (1) := by rw [x19e]; exact n_add (y := Int32.ofInt (1)) (by show _ ≤ _ + (1 : Int); omega) (by show _ + (1 : Int) ≤ _; omega)
              rw [← x19e]
              refine aw_step (f1 := (89, [some (.ref 65), some (.int x17), some (.int k), some (.int c), some (.int ba), some (.int x19), some (.int x5), some (.int x7)], [])) (w1 := w) rfl rfl ?_
              exact ih w x17 x19 _ _ (by omega) (by omega) (by omega) J (by omega) (by omega)
        · --
          refine aw_step (f1 := (131, [some (.ref 65), some (.int more), some (.int k), some (.int c), some (.int ba), some (.int dd), some (.int x5), o7], [(.ref 65)])) (w1 := w) rfl rfl ?_
          refine aw_step (f1 := (133, [some (.ref 65), some (.int more), some (.int k), some (.int c), some (.int ba), some (.int dd), some (.int x5), o7], [(.int ba), (.ref 65)])) (w1 := w) rfl rfl ?_
          refine aw_step (f1 := (135, [some (.ref 65), some (.int more), some (.int k), some (.int c), some (.int ba), some (.int dd), some (.int x5), o7], [(.int dd), (.int ba), (.ref 65)])) (w1 := w) rfl rfl ?_
          refine s_i (pc1 := 136) (ls1 := [some (.ref 65), some (.int more), some (.int k), some (.int c), some (.int ba), some (.int dd), some (.int x5), o7]) (st1 := [(.ref 65)]) rfl rfl fun x20 e21 => ?_
          have e21 : x20 = ba + dd := e21
          have e21t : x20.toInt = ba.toInt + dd.toInt := by rw [e21]; exact n_add (by omega) (by omega)
          refine aw_step (f1 := (137, [some (.ref 65), some (.int more), some (.int k), some (.int c), some (.int ba), some (.int dd), some (.int x5), o7], [(.ref 65), (.int x20), (.ref 65)])) (w1 := w) rfl rfl ?_
          refine s_gr 78 J 140 rfl rfl rfl rfl rfl rfl ?_
          refine aw_step (f1 := (141, [some (.ref 65), some (.int more), some (.int k), some (.int c), some (.int ba), some (.int dd), some (.int x5), o7], [(.int k), (.ref 78), (.int x20), (.ref 65)])) (w1 := w) rfl rfl ?_
          refine s_ia J 142 rfl rfl rfl rfl (by omega) (by omega) fun x22 x22a x22b x22f => ?_
          refine s_i (pc1 := 145) (ls1 := [some (.ref 65), some (.int more), some (.int k), some (.int c), some (.int ba), some (.int dd), some (.int x5), o7]) (st1 := [(.int x22), (.int x20), (.ref 65)]) rfl rfl fun x23 e24 => ?_
          have e24t : x23.toInt = 1000 := by rw [e24]; rfl
          refine s_i (pc1 := 146) (ls1 := [some (.ref 65), some (.int more), some (.int k), some (.int c), some (.int ba), some (.int dd), some (.int x5), o7]) (st1 := [(.int x20), (.ref 65)]) rfl rfl fun x25 e26 => ?_
          have e26 : x25 = x22 + x23 := e26
          have e26t : x25.toInt = x22.toInt + x23.toInt := by rw [e26]; exact n_add (by omega) (by omega)
          refine s_cv (z := 147) (p := 65) (as := [(.int x20), (.int x25)]) (st1 := []) J 149 rfl rfl rfl rfl rfl rfl rfl rfl (Nat.le_of_ble_eq_true rfl) (Nat.le_of_ble_eq_true rfl) (q_cheapen x20 x25 ⟨by omega, by omega⟩ (by omega) J.1) ?_
          rintro _ w28 ⟨x27, rfl, J29c, w28o, w28p⟩
          have J29 := J.trans J29c
          refine ⟨am_len2 J J29c, ?_⟩
          show aw none _ 149 _ (149, [some (.ref 65), some (.int more), some (.int k), some (.int c), some (.int ba), some (.int dd), some (.int x5), o7], [(.int x27)]) w28
          have w28s := w28p.s (by omega)
          have w28z := w28o.sz (by decide)
          refine s_if 156 152 rfl rfl rfl (fun (h30 : x27.toInt = 0) => ?_) (fun (h30 : ¬ (x27.toInt = 0)) => ?_)
          · --
            refine s_i (pc1 := 157) (ls1 := [some (.ref 65), some (.int more), some (.int k), some (.int c), some (.int ba), some (.int dd), some (.int x5), o7]) (st1 := []) rfl rfl fun x31 e32 => ?_
            have e32t : x31.toInt = 0 := by rw [e32]; rfl
            refine aw_step (f1 := (159, [some (.ref 65), some (.int more), some (.int k), some (.int c), some (.int ba), some (.int dd), some (.int x5), some (.int x31)], [])) (w1 := w28) rfl rfl ?_
            refine aw_step (f1 := (160, [some (.ref 65), some (.int more), some (.int k), some (.int c), some (.int ba), some (.int dd), some (.int x5), some (.int x31)], [(.int more)])) (w1 := w28) rfl rfl ?_
            refine s_if 168 163 rfl rfl rfl (fun (h33 : ¬ more.toInt = 0) => ?_) (fun (h33 : ¬ (¬ more.toInt = 0)) => ?_)
            · --
              refine s_i (pc1 := 169) (ls1 := [some (.ref 65), some (.int more), some (.int k), some (.int c), some (.int ba), some (.int dd), some (.int x5), some (.int x31)]) (st1 := []) rfl rfl fun x34 e35 => ?_
              have e35t : x34.toInt = 1 := by rw [e35]; rfl
              refine aw_step (f1 := (173, [some (.ref 65), some (.int more), some (.int k), some (.int c), some (.int ba), some (.int dd), some (.int x5), some (.int x31)], [(.int x34)])) (w1 := w28) rfl rfl ?_
              refine aw_step (f1 := (174, [some (.ref 65), some (.int x34), some (.int k), some (.int c), some (.int ba), some (.int dd), some (.int x5), some (.int x31)], [])) (w1 := w28) rfl rfl ?_
              refine aw_step (f1 := (177, [some (.ref 65), some (.int x34), some (.int k), some (.int c), some (.int ba), some (.int (dd + Int32.ofInt 1)), some (.int x5), some (.int x31)], [])) (w1 := w28) rfl rfl ?_
              obtain ⟨x36, x36e⟩ : ∃ z, z = (dd + Int32.ofInt 1) := ⟨_, rfl⟩
              have x36t : x36.toInt = dd.toInt + (1) := by rw [x36e]; exact n_add (y := Int32.ofInt (1)) (by show _ ≤ _ + (1 : Int); omega) (by show _ + (1 : Int) ≤ _; omega)
              rw [← x36e]
              refine aw_step (f1 := (89, [some (.ref 65), some (.int x34), some (.int k), some (.int c), some (.int ba), some (.int x36), some (.int x5), some (.int x31)], [])) (w1 := w28) rfl rfl ?_
              exact ih w28 x34 x36 _ _ (by omega) (by omega) (by omega) J29 (by omega) (by omega)
            · --
              refine aw_step (f1 := (165, [some (.ref 65), some (.int more), some (.int k), some (.int c), some (.int ba), some (.int dd), some (.int x5), some (.int x31)], [(.int x31)])) (w1 := w28) rfl rfl ?_
              refine s_if 172 168 rfl rfl rfl (fun (h37 : x31.toInt = 0) => ?_) (fun (h37 : ¬ (x31.toInt = 0)) => ?_)
              · --
                refine s_i (pc1 := 173) (ls1 := [some (.ref 65), some (.int more), some (.int k), some (.int c), some (.int ba), some (.int dd), some (.int x5), some (.int x31)]) (st1 := []) rfl rfl fun x38 e39 => ?_
                have e39t : x38.toInt = 0 := by rw [e39]; rfl
                refine aw_step (f1 := (174, [some (.ref 65), some (.int x38), some (.int k), some (.int c), some (.int ba), some (.int dd), some (.int x5), some (.int x31)], [])) (w1 := w28) rfl rfl ?_
                refine aw_step (f1 := (177, [some (.ref 65), some (.int x38), some (.int k), some (.int c), some (.int ba), some (.int (dd + Int32.ofInt 1)), some (.int x5), some (.int x31)], [])) (w1 := w28) rfl rfl ?_
                obtain ⟨x40, x40e⟩ : ∃ z, z = (dd + Int32.ofInt 1) := ⟨_, rfl⟩
                have x40t : x40.toInt = dd.toInt + (1) := by rw [x40e]; exact n_add (y := Int32.ofInt (1)) (by show _ ≤ _ + (1 : Int); omega) (by show _ + (1 : Int) ≤ _; omega)
                rw [← x40e]
                refine aw_step (f1 := (89, [some (.ref 65), some (.int x38), some (.int k), some (.int c), some (.int ba), some (.int x40), some (.int x5), some (.int x31)], [])) (w1 := w28) rfl rfl ?_
                exact ih w28 x38 x40 _ _ (by omega) (by omega) (by omega) J29 (by omega) (by omega)
              · --
                refine s_i (pc1 := 169) (ls1 := [some (.ref 65), some (.int more), some (.int k), some (.int c), some (.int ba), some (.int dd), some (.int x5), some (.int x31)]) (st1 := []) rfl rfl fun x41 e42 => ?_
                have e42t : x41.toInt = 1 := by rw [e42]; rfl
                refine aw_step (f1 := (173, [some (.ref 65), some (.int more), some (.int k), some (.int c), some (.int ba), some (.int dd), some (.int x5), some (.int x31)], [(.int x41)])) (w1 := w28) rfl rfl ?_
                refine aw_step (f1 := (174, [some (.ref 65), some (.int x41), some (.int k), some (.int c), some (.int ba), some (.int dd), some (.int x5), some (.int x31)], [])) (w1 := w28) rfl rfl ?_
                refine aw_step (f1 := (177, [some (.ref 65), some (.int x41), some (.int k), some (.int c), some (.int ba), some (.int (dd + Int32.ofInt 1)), some (.int x5), some (.int x31)], [])) (w1 := w28) rfl rfl ?_
                obtain ⟨x43, x43e⟩ : ∃ z, z = (dd + Int32.ofInt 1) := ⟨_, rfl⟩
                have x43t : x43.toInt = dd.toInt + (1) := by rw [x43e]; exact n_add (y := Int32.ofInt (1)) (by show _ ≤ _ + (1 : Int); omega) (by show _ + (1 : Int) ≤ _; omega)
                rw [← x43e]
                refine aw_step (f1 := (89, [some (.ref 65), some (.int x41), some (.int k), some (.int c), some (.int ba), some (.int x43), some (.int x5), some (.int x31)], [])) (w1 := w28) rfl rfl ?_
                exact ih w28 x41 x43 _ _ (by omega) (by omega) (by omega) J29 (by omega) (by omega)
          · --
            refine s_i (pc1 := 153) (ls1 := [some (.ref 65), some (.int more), some (.int k), some (.int c), some (.int ba), some (.int dd), some (.int x5), o7]) (st1 := []) rfl rfl fun x44 e45 => ?_
            have e45t : x44.toInt = 1 := by rw [e45]; rfl
            refine aw_step (f1 := (157, [some (.ref 65), some (.int more), some (.int k), some (.int c), some (.int ba), some (.int dd), some (.int x5), o7], [(.int x44)])) (w1 := w28) rfl rfl ?_
            refine aw_step (f1 := (159, [some (.ref 65), some (.int more), some (.int k), some (.int c), some (.int ba), some (.int dd), some (.int x5), some (.int x44)], [])) (w1 := w28) rfl rfl ?_
            refine aw_step (f1 := (160, [some (.ref 65), some (.int more), some (.int k), some (.int c), some (.int ba), some (.int dd), some (.int x5), some (.int x44)], [(.int more)])) (w1 := w28) rfl rfl ?_
            refine s_if 168 163 rfl rfl rfl (fun (h46 : ¬ more.toInt = 0) => ?_) (fun (h46 : ¬ (¬ more.toInt = 0)) => ?_)
            · --
              refine s_i (pc1 := 169) (ls1 := [some (.ref 65), some (.int more), some (.int k), some (.int c), some (.int ba), some (.int dd), some (.int x5), some (.int x44)]) (st1 := []) rfl rfl fun x47 e48 => ?_
              have e48t : x47.toInt = 1 := by rw [e48]; rfl
              refine aw_step (f1 := (173, [some (.ref 65), some (.int more), some (.int k), some (.int c), some (.int ba), some (.int dd), some (.int x5), some (.int x44)], [(.int x47)])) (w1 := w28) rfl rfl ?_
              refine aw_step (f1 := (174, [some (.ref 65), some (.int x47), some (.int k), some (.int c), some (.int ba), some (.int dd), some (.int x5), some (.int x44)], [])) (w1 := w28) rfl rfl ?_
              refine aw_step (f1 := (177, [some (.ref 65), some (.int x47), some (.int k), some (.int c), some (.int ba), some (.int (dd + Int32.ofInt 1)), some (.int x5), some (.int x44)], [])) (w1 := w28) rfl rfl ?_
              obtain ⟨x49, x49e⟩ : ∃ z, z = (dd + Int32.ofInt 1) := ⟨_, rfl⟩
              have x49t : x49.toInt = dd.toInt + (1) := by rw [x49e]; exact n_add (y := Int32.ofInt (1)) (by show _ ≤ _ + (1 : Int); omega) (by show _ + (1 : Int) ≤ _; omega)
              rw [← x49e]
              refine aw_step (f1 := (89, [some (.ref 65), some (.int x47), some (.int k), some (.int c), some (.int ba), some (.int x49), some (.int x5), some (.int x44)], [])) (w1 := w28) rfl rfl ?_
              exact ih w28 x47 x49 _ _ (by omega) (by omega) (by omega) J29 (by omega) (by omega)
            · --
              refine aw_step (f1 := (165, [some (.ref 65), some (.int more), some (.int k), some (.int c), some (.int ba), some (.int dd), some (.int x5), some (.int x44)], [(.int x44)])) (w1 := w28) rfl rfl ?_
              refine s_if 172 168 rfl rfl rfl (fun (h50 : x44.toInt = 0) => ?_) (fun (h50 : ¬ (x44.toInt = 0)) => ?_)
              · --
                refine s_i (pc1 := 173) (ls1 := [some (.ref 65), some (.int more), some (.int k), some (.int c), some (.int ba), some (.int dd), some (.int x5), some (.int x44)]) (st1 := []) rfl rfl fun x51 e52 => ?_
                have e52t : x51.toInt = 0 := by rw [e52]; rfl
                refine aw_step (f1 := (174, [some (.ref 65), some (.int x51), some (.int k), some (.int c), some (.int ba), some (.int dd), some (.int x5), some (.int x44)], [])) (w1 := w28) rfl rfl ?_
                refine aw_step (f1 := (177, [some (.ref 65), some (.int x51), some (.int k), some (.int c), some (.int ba), some (.int (dd + Int32.ofInt 1)), some (.int x5), some (.int x44)], [])) (w1 := w28) rfl rfl ?_
                obtain ⟨x53, x53e⟩ : ∃ z, z = (dd + Int32.ofInt 1) := ⟨_, rfl⟩
                have x53t : x53.toInt = dd.toInt + (1) := by rw [x53e]; exact n_add (y := Int32.ofInt (1)) (by show _ ≤ _ + (1 : Int); omega) (by show _ + (1 : Int) ≤ _; omega)
                rw [← x53e]
                refine aw_step (f1 := (89, [some (.ref 65), some (.int x51), some (.int k), some (.int c), some (.int ba), some (.int x53), some (.int x5), some (.int x44)], [])) (w1 := w28) rfl rfl ?_
                exact ih w28 x51 x53 _ _ (by omega) (by omega) (by omega) J29 (by omega) (by omega)
              · --
                refine s_i (pc1 := 169) (ls1 := [some (.ref 65), some (.int more), some (.int k), some (.int c), some (.int ba), some (.int dd), some (.int x5), some (.int x44)]) (st1 := []) rfl rfl fun x54 e55 => ?_
                have e55t : x54.toInt = 1 := by rw [e55]; rfl
                refine aw_step (f1 := (173, [some (.ref 65), some (.int more), some (.int k), some (.int c), some (.int ba), some (.int dd), some (.int x5), some (.int x44)], [(.int x54)])) (w1 := w28) rfl rfl ?_
                refine aw_step (f1 := (174, [some (.ref 65), some (.int x54), some (.int k), some (.int c), some (.int ba), some (.int dd), some (.int x5), some (.int x44)], [])) (w1 := w28) rfl rfl ?_
                refine aw_step (f1 := (177, [some (.ref 65), some (.int x54), some (.int k), some (.int c), some (.int ba), some (.int (dd + Int32.ofInt 1)), some (.int x5), some (.int x44)], [])) (w1 := w28) rfl rfl ?_
                obtain ⟨x56, x56e⟩ : ∃ z, z = (dd + Int32.ofInt 1) := ⟨_, rfl⟩
                have x56t : x56.toInt = dd.toInt + (1) := by rw [x56e]; exact n_add (y := Int32.ofInt (1)) (by show _ ≤ _ + (1 : Int); omega) (by show _ + (1 : Int) ≤ _; omega)
                rw [← x56e]
                refine aw_step (f1 := (89, [some (.ref 65), some (.int x54), some (.int k), some (.int c), some (.int ba), some (.int x56), some (.int x5), some (.int x44)], [])) (w1 := w28) rfl rfl ?_
                exact ih w28 x54 x56 _ _ (by omega) (by omega) (by omega) J29 (by omega) (by omega)
      · --
        refine aw_step (f1 := (104, [some (.ref 65), some (.int more), some (.int k), some (.int c), some (.int ba), some (.int dd), o6, o7], [(.ref 65)])) (w1 := w) rfl rfl ?_
        refine s_gr 74 J 107 rfl rfl rfl rfl rfl rfl ?_
        refine aw_step (f1 := (108, [some (.ref 65), some (.int more), some (.int k), some (.int c), some (.int ba), some (.int dd), o6, o7], [(.int c), (.ref 74)])) (w1 := w) rfl rfl ?_
        refine s_la J 109 rfl rfl rfl (by omega) (by omega) fun y57 y57a y57b y57f => ?_
        refine aw_step (f1 := (118, [some (.ref 65), some (.int more), some (.int k), some (.int c), some (.int ba), some (.int dd), o6, o7], [(.long y57)])) (w1 := w) rfl rfl ?_
        refine aw_step (f1 := (120, [some (.ref 65), some (.int more), some (.int k), some (.int c), some (.int ba), some (.int dd), o6, o7], [(.int dd), (.long y57)])) (w1 := w) rfl rfl ?_
        refine s_cs (z := 110) (as := [(.long y57), (.int dd)]) (st1 := []) 123 rfl rfl rfl rfl rfl rfl (Nat.le_of_ble_eq_true rfl) (Nat.le_of_ble_eq_true rfl) (Nat.le_of_ble_eq_true rfl) (q_has y57 dd (by omega) (by omega)) ?_
        rintro _ _ ⟨rfl, x58, rfl, x58t⟩
        refine ⟨rfl, ?_⟩
        show aw none _ 149 _ (123, [some (.ref 65), some (.int more), some (.int k), some (.int c), some (.int ba), some (.int dd), o6, o7], [(.int x58)]) w
        have x58l := bt_le (n64 y57) dd.toInt.toNat
        refine aw_step (f1 := (125, [some (.ref 65), some (.int more), some (.int k), some (.int c), some (.int ba), some (.int dd), some (.int x58), o7], [])) (w1 := w) rfl rfl ?_
        refine aw_step (f1 := (127, [some (.ref 65), some (.int more), some (.int k), some (.int c), some (.int ba), some (.int dd), some (.int x58), o7], [(.int x58)])) (w1 := w) rfl rfl ?_
        refine s_if 156 130 rfl rfl rfl (fun (h59 : x58.toInt = 0) => ?_) (fun (h59 : ¬ (x58.toInt = 0)) => ?_)
        · --
          refine s_i (pc1 := 157) (ls1 := [some (.ref 65), some (.int more), some (.int k), some (.int c), some (.int ba), some (.int dd), some (.int x58), o7]) (st1 := []) rfl rfl fun x60 e61 => ?_
          have e61t : x60.toInt = 0 := by rw [e61]; rfl
          refine aw_step (f1 := (159, [some (.ref 65), some (.int more), some (.int k), some (.int c), some (.int ba), some (.int dd), some (.int x58), some (.int x60)], [])) (w1 := w) rfl rfl ?_
          refine aw_step (f1 := (160, [some (.ref 65), some (.int more), some (.int k), some (.int c), some (.int ba), some (.int dd), some (.int x58), some (.int x60)], [(.int more)])) (w1 := w) rfl rfl ?_
          refine s_if 168 163 rfl rfl rfl (fun (h62 : ¬ more.toInt = 0) => ?_) (fun (h62 : ¬ (¬ more.toInt = 0)) => ?_)
          · --
            refine s_i (pc1 := 169) (ls1 := [some (.ref 65), some (.int more), some (.int k), some (.int c), some (.int ba), some (.int dd), some (.int x58), some (.int x60)]) (st1 := []) rfl rfl fun x63 e64 => ?_
            have e64t : x63.toInt = 1 := by rw [e64]; rfl
            refine aw_step (f1 := (173, [some (.ref 65), some (.int more), some (.int k), some (.int c), some (.int ba), some (.int dd), some (.int x58), some (.int x60)], [(.int x63)])) (w1 := w) rfl rfl ?_
            refine aw_step (f1 := (174, [some (.ref 65), some (.int x63), some (.int k), some (.int c), some (.int ba), some (.int dd), some (.int x58), some (.int x60)], [])) (w1 := w) rfl rfl ?_
            refine aw_step (f1 := (177, [some (.ref 65), some (.int x63), some (.int k), some (.int c), some (.int ba), some (.int (dd + Int32.ofInt 1)), some (.int x58), some (.int x60)], [])) (w1 := w) rfl rfl ?_
            obtain ⟨x65, x65e⟩ : ∃ z, z = (dd + Int32.ofInt 1) := ⟨_, rfl⟩
            have x65t : x65.toInt = dd.toInt + (1) := by rw [x65e]; exact n_add (y := Int32.ofInt (1)) (by show _ ≤ _ + (1 : Int); omega) (by show _ + (1 : Int) ≤ _; omega)
            rw [← x65e]
            refine aw_step (f1 := (89, [some (.ref 65), some (.int x63), some (.int k), some (.int c), some (.int ba), some (.int x65), some (.int x58), some (.int x60)], [])) (w1 := w) rfl rfl ?_
            exact ih w x63 x65 _ _ (by omega) (by omega) (by omega) J (by omega) (by omega)
          · --
            refine aw_step (f1 := (165, [some (.ref 65), some (.int more), some (.int k), some (.int c), some (.int ba), some (.int dd), some (.int x58), some (.int x60)], [(.int x60)])) (w1 := w) rfl rfl ?_
            refine s_if 172 168 rfl rfl rfl (fun (h66 : x60.toInt = 0) => ?_) (fun (h66 : ¬ (x60.toInt = 0)) => ?_)
            · --
              refine s_i (pc1 := 173) (ls1 := [some (.ref 65), some (.int more), some (.int k), some (.int c), some (.int ba), some (.int dd), some (.int x58), some (.int x60)]) (st1 := []) rfl rfl fun x67 e68 => ?_
              have e68t : x67.toInt = 0 := by rw [e68]; rfl
              refine aw_step (f1 := (174, [some (.ref 65), some (.int x67), some (.int k), some (.int c), some (.int ba), some (.int dd), some (.int x58), some (.int x60)], [])) (w1 := w) rfl rfl ?_
              refine aw_step (f1 := (177, [some (.ref 65), some (.int x67), some (.int k), some (.int c), some (.int ba), some (.int (dd + Int32.ofInt 1)), some (.int x58), some (.int x60)], [])) (w1 := w) rfl rfl ?_
              obtain ⟨x69, x69e⟩ : ∃ z, z = (dd + Int32.ofInt 1) := ⟨_, rfl⟩
              have x69t : x69.toInt = dd.toInt + (1) := by rw [x69e]; exact n_add (y := Int32.ofInt (1)) (by show _ ≤ _ + (1 : Int); omega) (by show _ + (1 : Int) ≤ _; omega)
              rw [← x69e]
              refine aw_step (f1 := (89, [some (.ref 65), some (.int x67), some (.int k), some (.int c), some (.int ba), some (.int x69), some (.int x58), some (.int x60)], [])) (w1 := w) rfl rfl ?_
              exact ih w x67 x69 _ _ (by omega) (by omega) (by omega) J (by omega) (by omega)
            · --
              refine s_i (pc1 := 169) (ls1 := [some (.ref 65), some (.int more), some (.int k), some (.int c), some (.int ba), some (.int dd), some (.int x58), some (.int x60)]) (st1 := []) rfl rfl fun x70 e71 => ?_
              have e71t : x70.toInt = 1 := by rw [e71]; rfl
              refine aw_step (f1 := (173, [some (.ref 65), some (.int more), some (.int k), some (.int c), some (.int ba), some (.int dd), some (.int x58), some (.int x60)], [(.int x70)])) (w1 := w) rfl rfl ?_
              refine aw_step (f1 := (174, [some (.ref 65), some (.int x70), some (.int k), some (.int c), some (.int ba), some (.int dd), some (.int x58), some (.int x60)], [])) (w1 := w) rfl rfl ?_
              refine aw_step (f1 := (177, [some (.ref 65), some (.int x70), some (.int k), some (.int c), some (.int ba), some (.int (dd + Int32.ofInt 1)), some (.int x58), some (.int x60)], [])) (w1 := w) rfl rfl ?_
              obtain ⟨x72, x72e⟩ : ∃ z, z = (dd + Int32.ofInt 1) := ⟨_, rfl⟩
              have x72t : x72.toInt = dd.toInt + (1) := by rw [x72e]; exact n_add (y := Int32.ofInt (1)) (by show _ ≤ _ + (1 : Int); omega) (by show _ + (1 : Int) ≤ _; omega)
              rw [← x72e]
              refine aw_step (f1 := (89, [some (.ref 65), some (.int x70), some (.int k), some (.int c), some (.int ba), some (.int x72), some (.int x58), some (.int x60)], [])) (w1 := w) rfl rfl ?_
              exact ih w x70 x72 _ _ (by omega) (by omega) (by omega) J (by omega) (by omega)
        · --
          refine aw_step (f1 := (131, [some (.ref 65), some (.int more), some (.int k), some (.int c), some (.int ba), some (.int dd), some (.int x58), o7], [(.ref 65)])) (w1 := w) rfl rfl ?_
          refine aw_step (f1 := (133, [some (.ref 65), some (.int more), some (.int k), some (.int c), some (.int ba), some (.int dd), some (.int x58), o7], [(.int ba), (.ref 65)])) (w1 := w) rfl rfl ?_
          refine aw_step (f1 := (135, [some (.ref 65), some (.int more), some (.int k), some (.int c), some (.int ba), some (.int dd), some (.int x58), o7], [(.int dd), (.int ba), (.ref 65)])) (w1 := w) rfl rfl ?_
          refine s_i (pc1 := 136) (ls1 := [some (.ref 65), some (.int more), some (.int k), some (.int c), some (.int ba), some (.int dd), some (.int x58), o7]) (st1 := [(.ref 65)]) rfl rfl fun x73 e74 => ?_
          have e74 : x73 = ba + dd := e74
          have e74t : x73.toInt = ba.toInt + dd.toInt := by rw [e74]; exact n_add (by omega) (by omega)
          refine aw_step (f1 := (137, [some (.ref 65), some (.int more), some (.int k), some (.int c), some (.int ba), some (.int dd), some (.int x58), o7], [(.ref 65), (.int x73), (.ref 65)])) (w1 := w) rfl rfl ?_
          refine s_gr 78 J 140 rfl rfl rfl rfl rfl rfl ?_
          refine aw_step (f1 := (141, [some (.ref 65), some (.int more), some (.int k), some (.int c), some (.int ba), some (.int dd), some (.int x58), o7], [(.int k), (.ref 78), (.int x73), (.ref 65)])) (w1 := w) rfl rfl ?_
          refine s_ia J 142 rfl rfl rfl rfl (by omega) (by omega) fun x75 x75a x75b x75f => ?_
          refine s_i (pc1 := 145) (ls1 := [some (.ref 65), some (.int more), some (.int k), some (.int c), some (.int ba), some (.int dd), some (.int x58), o7]) (st1 := [(.int x75), (.int x73), (.ref 65)]) rfl rfl fun x76 e77 => ?_
          have e77t : x76.toInt = 1000 := by rw [e77]; rfl
          refine s_i (pc1 := 146) (ls1 := [some (.ref 65), some (.int more), some (.int k), some (.int c), some (.int ba), some (.int dd), some (.int x58), o7]) (st1 := [(.int x73), (.ref 65)]) rfl rfl fun x78 e79 => ?_
          have e79 : x78 = x75 + x76 := e79
          have e79t : x78.toInt = x75.toInt + x76.toInt := by rw [e79]; exact n_add (by omega) (by omega)
          refine s_cv (z := 147) (p := 65) (as := [(.int x73), (.int x78)]) (st1 := []) J 149 rfl rfl rfl rfl rfl rfl rfl rfl (Nat.le_of_ble_eq_true rfl) (Nat.le_of_ble_eq_true rfl) (q_cheapen x73 x78 ⟨by omega, by omega⟩ (by omega) J.1) ?_
          rintro _ w81 ⟨x80, rfl, J82c, w81o, w81p⟩
          have J82 := J.trans J82c
          refine ⟨am_len2 J J82c, ?_⟩
          show aw none _ 149 _ (149, [some (.ref 65), some (.int more), some (.int k), some (.int c), some (.int ba), some (.int dd), some (.int x58), o7], [(.int x80)]) w81
          have w81s := w81p.s (by omega)
          have w81z := w81o.sz (by decide)
          refine s_if 156 152 rfl rfl rfl (fun (h83 : x80.toInt = 0) => ?_) (fun (h83 : ¬ (x80.toInt = 0)) => ?_)
          · --
            refine s_i (pc1 := 157) (ls1 := [some (.ref 65), some (.int more), some (.int k), some (.int c), some (.int ba), some (.int dd), some (.int x58), o7]) (st1 := []) rfl rfl fun x84 e85 => ?_
            have e85t : x84.toInt = 0 := by rw [e85]; rfl
            refine aw_step (f1 := (159, [some (.ref 65), some (.int more), some (.int k), some (.int c), some (.int ba), some (.int dd), some (.int x58), some (.int x84)], [])) (w1 := w81) rfl rfl ?_
            refine aw_step (f1 := (160, [some (.ref 65), some (.int more), some (.int k), some (.int c), some (.int ba), some (.int dd), some (.int x58), some (.int x84)], [(.int more)])) (w1 := w81) rfl rfl ?_
            refine s_if 168 163 rfl rfl rfl (fun (h86 : ¬ more.toInt = 0) => ?_) (fun (h86 : ¬ (¬ more.toInt = 0)) => ?_)
            · --
              refine s_i (pc1 := 169) (ls1 := [some (.ref 65), some (.int more), some (.int k), some (.int c), some (.int ba), some (.int dd), some (.int x58), some (.int x84)]) (st1 := []) rfl rfl fun x87 e88 => ?_
              have e88t : x87.toInt = 1 := by rw [e88]; rfl
              refine aw_step (f1 := (173, [some (.ref 65), some (.int more), some (.int k), some (.int c), some (.int ba), some (.int dd), some (.int x58), some (.int x84)], [(.int x87)])) (w1 := w81) rfl rfl ?_
              refine aw_step (f1 := (174, [some (.ref 65), some (.int x87), some (.int k), some (.int c), some (.int ba), some (.int dd), some (.int x58), some (.int x84)], [])) (w1 := w81) rfl rfl ?_
              refine aw_step (f1 := (177, [some (.ref 65), some (.int x87), some (.int k), some (.int c), some (.int ba), some (.int (dd + Int32.ofInt 1)), some (.int x58), some (.int x84)], [])) (w1 := w81) rfl rfl ?_
              obtain ⟨x89, x89e⟩ : ∃ z, z = (dd + Int32.ofInt 1) := ⟨_, rfl⟩
              have x89t : x89.toInt = dd.toInt + (1) := by rw [x89e]; exact n_add (y := Int32.ofInt (1)) (by show _ ≤ _ + (1 : Int); omega) (by show _ + (1 : Int) ≤ _; omega)
              rw [← x89e]
              refine aw_step (f1 := (89, [some (.ref 65), some (.int x87), some (.int k), some (.int c), some (.int ba), some (.int x89), some (.int x58), some (.int x84)], [])) (w1 := w81) rfl rfl ?_
              exact ih w81 x87 x89 _ _ (by omega) (by omega) (by omega) J82 (by omega) (by omega)
            · --
              refine aw_step (f1 := (165, [some (.ref 65), some (.int more), some (.int k), some (.int c), some (.int ba), some (.int dd), some (.int x58), some (.int x84)], [(.int x84)])) (w1 := w81) rfl rfl ?_
              refine s_if 172 168 rfl rfl rfl (fun (h90 : x84.toInt = 0) => ?_) (fun (h90 : ¬ (x84.toInt = 0)) => ?_)
              · --
                refine s_i (pc1 := 173) (ls1 := [some (.ref 65), some (.int more), some (.int k), some (.int c), some (.int ba), some (.int dd), some (.int x58), some (.int x84)]) (st1 := []) rfl rfl fun x91 e92 => ?_
                have e92t : x91.toInt = 0 := by rw [e92]; rfl
                refine aw_step (f1 := (174, [some (.ref 65), some (.int x91), some (.int k), some (.int c), some (.int ba), some (.int dd), some (.int x58), some (.int x84)], [])) (w1 := w81) rfl rfl ?_
                refine aw_step (f1 := (177, [some (.ref 65), some (.int x91), some (.int k), some (.int c), some (.int ba), some (.int (dd + Int32.ofInt 1)), some (.int x58), some (.int x84)], [])) (w1 := w81) rfl rfl ?_
                obtain ⟨x93, x93e⟩ : ∃ z, z = (dd + Int32.ofInt 1) := ⟨_, rfl⟩
                have x93t : x93.toInt = dd.toInt + (1) := by rw [x93e]; exact n_add (y := Int32.ofInt (1)) (by show _ ≤ _ + (1 : Int); omega) (by show _ + (1 : Int) ≤ _; omega)
                rw [← x93e]
                refine aw_step (f1 := (89, [some (.ref 65), some (.int x91), some (.int k), some (.int c), some (.int ba), some (.int x93), some (.int x58), some (.int x84)], [])) (w1 := w81) rfl rfl ?_
                exact ih w81 x91 x93 _ _ (by omega) (by omega) (by omega) J82 (by omega) (by omega)
              · --
                refine s_i (pc1 := 169) (ls1 := [some (.ref 65), some (.int more), some (.int k), some (.int c), some (.int ba), some (.int dd), some (.int x58), some (.int x84)]) (st1 := []) rfl rfl fun x94 e95 => ?_
                have e95t : x94.toInt = 1 := by rw [e95]; rfl
                refine aw_step (f1 := (173, [some (.ref 65), some (.int more), some (.int k), some (.int c), some (.int ba), some (.int dd), some (.int x58), some (.int x84)], [(.int x94)])) (w1 := w81) rfl rfl ?_
                refine aw_step (f1 := (174, [some (.ref 65), some (.int x94), some (.int k), some (.int c), some (.int ba), some (.int dd), some (.int x58), some (.int x84)], [])) (w1 := w81) rfl rfl ?_
                refine aw_step (f1 := (177, [some (.ref 65), some (.int x94), some (.int k), some (.int c), some (.int ba), some (.int (dd + Int32.ofInt 1)), some (.int x58), some (.int x84)], [])) (w1 := w81) rfl rfl ?_
                obtain ⟨x96, x96e⟩ : ∃ z, z = (dd + Int32.ofInt 1) := ⟨_, rfl⟩
                have x96t : x96.toInt = dd.toInt + (1) := by rw [x96e]; exact n_add (y := Int32.ofInt (1)) (by show _ ≤ _ + (1 : Int); omega) (by show _ + (1 : Int) ≤ _; omega)
                rw [← x96e]
                refine aw_step (f1 := (89, [some (.ref 65), some (.int x94), some (.int k), some (.int c), some (.int ba), some (.int x96), some (.int x58), some (.int x84)], [])) (w1 := w81) rfl rfl ?_
                exact ih w81 x94 x96 _ _ (by omega) (by omega) (by omega) J82 (by omega) (by omega)
          · --
            refine s_i (pc1 := 153) (ls1 := [some (.ref 65), some (.int more), some (.int k), some (.int c), some (.int ba), some (.int dd), some (.int x58), o7]) (st1 := []) rfl rfl fun x97 e98 => ?_
            have e98t : x97.toInt = 1 := by rw [e98]; rfl
            refine aw_step (f1 := (157, [some (.ref 65), some (.int more), some (.int k), some (.int c), some (.int ba), some (.int dd), some (.int x58), o7], [(.int x97)])) (w1 := w81) rfl rfl ?_
            refine aw_step (f1 := (159, [some (.ref 65), some (.int more), some (.int k), some (.int c), some (.int ba), some (.int dd), some (.int x58), some (.int x97)], [])) (w1 := w81) rfl rfl ?_
            refine aw_step (f1 := (160, [some (.ref 65), some (.int more), some (.int k), some (.int c), some (.int ba), some (.int dd), some (.int x58), some (.int x97)], [(.int more)])) (w1 := w81) rfl rfl ?_
            refine s_if 168 163 rfl rfl rfl (fun (h99 : ¬ more.toInt = 0) => ?_) (fun (h99 : ¬ (¬ more.toInt = 0)) => ?_)
            · --
              refine s_i (pc1 := 169) (ls1 := [some (.ref 65), some (.int more), some (.int k), some (.int c), some (.int ba), some (.int dd), some (.int x58), some (.int x97)]) (st1 := []) rfl rfl fun x100 e101 => ?_
              have e101t : x100.toInt = 1 := by rw [e101]; rfl
              refine aw_step (f1 := (173, [some (.ref 65), some (.int more), some (.int k), some (.int c), some (.int ba), some (.int dd), some (.int x58), some (.int x97)], [(.int x100)])) (w1 := w81) rfl rfl ?_
              refine aw_step (f1 := (174, [some (.ref 65), some (.int x100), some (.int k), some (.int c), some (.int ba), some (.int dd), some (.int x58), some (.int x97)], [])) (w1 := w81) rfl rfl ?_
              refine aw_step (f1 := (177, [some (.ref 65), some (.int x100), some (.int k), some (.int c), some (.int ba), some (.int (dd + Int32.ofInt 1)), some (.int x58), some (.int x97)], [])) (w1 := w81) rfl rfl ?_
              obtain ⟨x102, x102e⟩ : ∃ z, z = (dd + Int32.ofInt 1) := ⟨_, rfl⟩
              have x102t : x102.toInt = dd.toInt + (1) := by rw [x102e]; exact n_add (y := Int32.ofInt (1)) (by show _ ≤ _ + (1 : Int); omega) (by show _ + (1 : Int) ≤ _; omega)
              rw [← x102e]
              refine aw_step (f1 := (89, [some (.ref 65), some (.int x100), some (.int k), some (.int c), some (.int ba), some (.int x102), some (.int x58), some (.int x97)], [])) (w1 := w81) rfl rfl ?_
              exact ih w81 x100 x102 _ _ (by omega) (by omega) (by omega) J82 (by omega) (by omega)
            · --
              refine aw_step (f1 := (165, [some (.ref 65), some (.int more), some (.int k), some (.int c), some (.int ba), some (.int dd), some (.int x58), some (.int x97)], [(.int x97)])) (w1 := w81) rfl rfl ?_
              refine s_if 172 168 rfl rfl rfl (fun (h103 : x97.toInt = 0) => ?_) (fun (h103 : ¬ (x97.toInt = 0)) => ?_)
              · --
                refine s_i (pc1 := 173) (ls1 := [some (.ref 65), some (.int more), some (.int k), some (.int c), some (.int ba), some (.int dd), some (.int x58), some (.int x97)]) (st1 := []) rfl rfl fun x104 e105 => ?_
                have e105t : x104.toInt = 0 := by rw [e105]; rfl
                refine aw_step (f1 := (174, [some (.ref 65), some (.int x104), some (.int k), some (.int c), some (.int ba), some (.int dd), some (.int x58), some (.int x97)], [])) (w1 := w81) rfl rfl ?_
                refine aw_step (f1 := (177, [some (.ref 65), some (.int x104), some (.int k), some (.int c), some (.int ba), some (.int (dd + Int32.ofInt 1)), some (.int x58), some (.int x97)], [])) (w1 := w81) rfl rfl ?_
                obtain ⟨x106, x106e⟩ : ∃ z, z = (dd + Int32.ofInt 1) := ⟨_, rfl⟩
                have x106t : x106.toInt = dd.toInt + (1) := by rw [x106e]; exact n_add (y := Int32.ofInt (1)) (by show _ ≤ _ + (1 : Int); omega) (by show _ + (1 : Int) ≤ _; omega)
                rw [← x106e]
                refine aw_step (f1 := (89, [some (.ref 65), some (.int x104), some (.int k), some (.int c), some (.int ba), some (.int x106), some (.int x58), some (.int x97)], [])) (w1 := w81) rfl rfl ?_
                exact ih w81 x104 x106 _ _ (by omega) (by omega) (by omega) J82 (by omega) (by omega)
              · --
                refine s_i (pc1 := 169) (ls1 := [some (.ref 65), some (.int more), some (.int k), some (.int c), some (.int ba), some (.int dd), some (.int x58), some (.int x97)]) (st1 := []) rfl rfl fun x107 e108 => ?_
                have e108t : x107.toInt = 1 := by rw [e108]; rfl
                refine aw_step (f1 := (173, [some (.ref 65), some (.int more), some (.int k), some (.int c), some (.int ba), some (.int dd), some (.int x58), some (.int x97)], [(.int x107)])) (w1 := w81) rfl rfl ?_
                refine aw_step (f1 := (174, [some (.ref 65), some (.int x107), some (.int k), some (.int c), some (.int ba), some (.int dd), some (.int x58), some (.int x97)], [])) (w1 := w81) rfl rfl ?_
                refine aw_step (f1 := (177, [some (.ref 65), some (.int x107), some (.int k), some (.int c), some (.int ba), some (.int (dd + Int32.ofInt 1)), some (.int x58), some (.int x97)], [])) (w1 := w81) rfl rfl ?_
                obtain ⟨x109, x109e⟩ : ∃ z, z = (dd + Int32.ofInt 1) := ⟨_, rfl⟩
                have x109t : x109.toInt = dd.toInt + (1) := by rw [x109e]; exact n_add (y := Int32.ofInt (1)) (by show _ ≤ _ + (1 : Int); omega) (by show _ + (1 : Int) ≤ _; omega)
                rw [← x109e]
                refine aw_step (f1 := (89, [some (.ref 65), some (.int x107), some (.int k), some (.int c), some (.int ba), some (.int x109), some (.int x58), some (.int x97)], [])) (w1 := w81) rfl rfl ?_
                exact ih w81 x107 x109 _ _ (by omega) (by omega) (by omega) J82 (by omega) (by omega)
theorem q_chJ {d : Nat} {w00 : am_W} {z s0 : Int} : ∀ (m : Nat) (w : am_W) (more k : Int32) (o3 o4 o5 o6 o7 : Option Value), (72 - k.toInt).toNat < m → 0 ≤ k.toInt → k.toInt ≤ 72 → ab_J ab_TT ab_sets ab_WR w00 w → szM w = z → ((more.toInt = 1 ∧ sC w < s0) ∨ (more.toInt = 0 ∧ sC w ≤ s0)) → aw none (d + 3) 149 (fun r w1 => ∃ b : Int32, r = some (.int b) ∧ ab_J ab_TT ab_sets ab_WR w00 w1 ∧ ((b.toInt = 1 ∧ sC w1 < s0) ∨ (b.toInt = 0 ∧ sC w1 ≤ s0))) (4, [some (.ref 65), some (.int more), some (.int k), o3, o4, o5, o6, o7], []) w := by
  intro m
  induction m with
  | zero => intro w more k o3 o4 o5 o6 o7 p; omega
  | succ m ih =>
    intro w more k o3 o4 o5 o6 o7 p1 p2 p3 J zz R
    have sz := szM_in J.1
    refine aw_step (f1 := (5, [some (.ref 65), some (.int more), some (.int k), o3, o4, o5, o6, o7], [(.int k)])) (w1 := w) rfl rfl ?_
    refine s_i (pc1 := 7) (ls1 := [some (.ref 65), some (.int more), some (.int k), o3, o4, o5, o6, o7]) (st1 := [(.int k)]) rfl rfl fun x1 e2 => ?_
    have e2t : x1.toInt = 72 := by rw [e2]; rfl
    refine s_ic 186 10 rfl rfl rfl (fun (h3 : x1.toInt ≤ k.toInt) => ?_) (fun (h3 : ¬ (x1.toInt ≤ k.toInt)) => ?_)
    · --
      refine aw_step (f1 := (187, [some (.ref 65), some (.int more), some (.int k), o3, o4, o5, o6, o7], [(.int more)])) (w1 := w) rfl rfl ?_
      refine aw_ret (v := some (.int more)) rfl (am_retz (by omega)) ?_
      exact ⟨more, rfl, J, by omega⟩
    · --
      refine aw_step (f1 := (11, [some (.ref 65), some (.int more), some (.int k), o3, o4, o5, o6, o7], [(.int k)])) (w1 := w) rfl rfl ?_
      refine s_i (pc1 := 13) (ls1 := [some (.ref 65), some (.int more), some (.int k), o3, o4, o5, o6, o7]) (st1 := [(.int k)]) rfl rfl fun x4 e5 => ?_
      have e5t : x4.toInt = 36 := by rw [e5]; rfl
      refine s_dv (f := fun x y => x - x / y * y) 14 rfl rfl (by omega) fun x6 e7 => ?_
      have e7 : x6 = k - k / x4 * x4 := e7
      have e7t : x6.toInt = k.toInt % x4.toInt := by rw [e7]; exact n_rem (by omega) (by omega)
      rw [e5t] at e7t
      refine aw_step (f1 := (15, [some (.ref 65), some (.int more), some (.int k), some (.int x6), o4, o5, o6, o7], [])) (w1 := w) rfl rfl ?_
      refine aw_step (f1 := (16, [some (.ref 65), some (.int more), some (.int k), some (.int x6), o4, o5, o6, o7], [(.ref 65)])) (w1 := w) rfl rfl ?_
      refine s_gr 78 J 19 rfl rfl rfl rfl rfl rfl ?_
      refine aw_step (f1 := (20, [some (.ref 65), some (.int more), some (.int k), some (.int x6), o4, o5, o6, o7], [(.int k), (.ref 78)])) (w1 := w) rfl rfl ?_
      refine s_ia J 21 rfl rfl rfl rfl (by omega) (by omega) fun x8 x8a x8b x8f => ?_
      refine s_i (pc1 := 23) (ls1 := [some (.ref 65), some (.int more), some (.int k), some (.int x6), o4, o5, o6, o7]) (st1 := [(.int x8)]) rfl rfl fun x9 e10 => ?_
      have e10t : x9.toInt = 100000 := by rw [e10]; rfl
      refine s_ic 180 26 rfl rfl rfl (fun (h11 : x9.toInt ≤ x8.toInt) => ?_) (fun (h11 : ¬ (x9.toInt ≤ x8.toInt)) => ?_)
      · --
        refine aw_step (f1 := (183, [some (.ref 65), some (.int more), some (.int (k + Int32.ofInt 1)), some (.int x6), o4, o5, o6, o7], [])) (w1 := w) rfl rfl ?_
        obtain ⟨x12, x12e⟩ : ∃ z, z = (k + Int32.ofInt 1) := ⟨_, rfl⟩
        have x12t : x12.toInt = k.toInt + (1) := by rw [x12e]; exact n_add (y := Int32.ofInt (1)) (by show _ ≤ _ + (1 : Int); omega) (by show _ + (1 : Int) ≤ _; omega)
        rw [← x12e]
        refine aw_step (f1 := (4, [some (.ref 65), some (.int more), some (.int x12), some (.int x6), o4, o5, o6, o7], [])) (w1 := w) rfl rfl ?_
        exact ih w more x12 _ _ _ _ _ (by omega) (by omega) (by omega) J (by omega) (by omega)
      · --
        refine aw_step (f1 := (27, [some (.ref 65), some (.int more), some (.int k), some (.int x6), o4, o5, o6, o7], [(.ref 65)])) (w1 := w) rfl rfl ?_
        refine aw_step (f1 := (28, [some (.ref 65), some (.int more), some (.int k), some (.int x6), o4, o5, o6, o7], [(.int x6), (.ref 65)])) (w1 := w) rfl rfl ?_
        refine s_cv (z := 115) (p := 65) (as := [(.int x6)]) (st1 := []) J 31 rfl rfl rfl rfl rfl rfl rfl rfl (Nat.le_of_ble_eq_true rfl) (Nat.le_of_ble_eq_true rfl) (q_isLand x6 J.1) ?_
        rintro _ _ ⟨rfl, x13, rfl, x13t⟩
        refine ⟨rfl, ?_⟩
        show aw none _ 149 _ (31, [some (.ref 65), some (.int more), some (.int k), some (.int x6), o4, o5, o6, o7], [(.int x13)]) w
        have x13s := szM_in J.1
        refine s_if 180 34 rfl rfl rfl (fun (h14 : x13.toInt = 0) => ?_) (fun (h14 : ¬ (x13.toInt = 0)) => ?_)
        · --
          refine aw_step (f1 := (183, [some (.ref 65), some (.int more), some (.int (k + Int32.ofInt 1)), some (.int x6), o4, o5, o6, o7], [])) (w1 := w) rfl rfl ?_
          obtain ⟨x15, x15e⟩ : ∃ z, z = (k + Int32.ofInt 1) := ⟨_, rfl⟩
          have x15t : x15.toInt = k.toInt + (1) := by rw [x15e]; exact n_add (y := Int32.ofInt (1)) (by show _ ≤ _ + (1 : Int); omega) (by show _ + (1 : Int) ≤ _; omega)
          rw [← x15e]
          refine aw_step (f1 := (4, [some (.ref 65), some (.int more), some (.int x15), some (.int x6), o4, o5, o6, o7], [])) (w1 := w) rfl rfl ?_
          exact ih w more x15 _ _ _ _ _ (by omega) (by omega) (by omega) J (by omega) (by omega)
        · --
          refine aw_step (f1 := (35, [some (.ref 65), some (.int more), some (.int k), some (.int x6), o4, o5, o6, o7], [(.int k)])) (w1 := w) rfl rfl ?_
          refine aw_step (f1 := (36, [some (.ref 65), some (.int more), some (.int k), some (.int x6), o4, o5, o6, o7], [(.int x6), (.int k)])) (w1 := w) rfl rfl ?_
          refine s_i (pc1 := 37) (ls1 := [some (.ref 65), some (.int more), some (.int k), some (.int x6), o4, o5, o6, o7]) (st1 := []) rfl rfl fun x16 e17 => ?_
          have e17 : x16 = k - x6 := e17
          have e17t : x16.toInt = k.toInt - x6.toInt := by rw [e17]; exact n_sub (by omega) (by omega)
          refine aw_step (f1 := (39, [some (.ref 65), some (.int more), some (.int k), some (.int x6), some (.int x16), o5, o6, o7], [])) (w1 := w) rfl rfl ?_
          refine aw_step (f1 := (40, [some (.ref 65), some (.int more), some (.int k), some (.int x6), some (.int x16), o5, o6, o7], [(.ref 65)])) (w1 := w) rfl rfl ?_
          refine s_gl J 43 rfl rfl rfl rfl rfl rfl fun y18 y18a y18b y18f => ?_
          refine aw_step (f1 := (44, [some (.ref 65), some (.int more), some (.int k), some (.int x6), some (.int x16), o5, o6, o7], [(.int x6), (.long y18)])) (w1 := w) rfl rfl ?_
          refine s_cs (z := 110) (as := [(.long y18), (.int x6)]) (st1 := []) 47 rfl rfl rfl rfl rfl rfl (Nat.le_of_ble_eq_true rfl) (Nat.le_of_ble_eq_true rfl) (Nat.le_of_ble_eq_true rfl) (q_has y18 x6 (by omega) (by omega)) ?_
          rintro _ _ ⟨rfl, x19, rfl, x19t⟩
          refine ⟨rfl, ?_⟩
          show aw none _ 149 _ (47, [some (.ref 65), some (.int more), some (.int k), some (.int x6), some (.int x16), o5, o6, o7], [(.int x19)]) w
          have x19l := bt_le (n64 y18) x6.toInt.toNat
          refine s_if 86 50 rfl rfl rfl (fun (h20 : x19.toInt = 0) => ?_) (fun (h20 : ¬ (x19.toInt = 0)) => ?_)
          · --
            refine s_i (pc1 := 87) (ls1 := [some (.ref 65), some (.int more), some (.int k), some (.int x6), some (.int x16), o5, o6, o7]) (st1 := []) rfl rfl fun x21 e22 => ?_
            have e22t : x21.toInt = 0 := by rw [e22]; rfl
            refine aw_step (f1 := (89, [some (.ref 65), some (.int more), some (.int k), some (.int x6), some (.int x16), some (.int x21), o6, o7], [])) (w1 := w) rfl rfl ?_
            refine q_chI (z := z) (s0 := s0) k x6 x16 ⟨by omega, by omega⟩ ⟨by omega, by omega⟩ (by omega) (fun wq mq o5q o6q o7q Jq zq Rq => ?_) 37 w more x21 _ _ (by omega) (by omega) (by omega) J (by omega) (by omega)
            refine aw_step (f1 := (183, [some (.ref 65), some (.int mq), some (.int (k + Int32.ofInt 1)), some (.int x6), some (.int x16), o5q, o6q, o7q], [])) (w1 := wq) rfl rfl ?_
            obtain ⟨zx1, zx1e⟩ : ∃ z, z = (k + Int32.ofInt 1) := ⟨_, rfl⟩
            have zx1t : zx1.toInt = k.toInt + (1) := by rw [zx1e]; exact n_add (y := Int32.ofInt (1)) (by show _ ≤ _ + (1 : Int); omega) (by show _ + (1 : Int) ≤ _; omega)
            rw [← zx1e]
            refine aw_step (f1 := (4, [some (.ref 65), some (.int mq), some (.int zx1), some (.int x6), some (.int x16), o5q, o6q, o7q], [])) (w1 := wq) rfl rfl ?_
            exact ih wq mq zx1 _ _ _ _ _ (by omega) (by omega) (by omega) Jq (by omega) (by omega)
          · --
            refine aw_step (f1 := (51, [some (.ref 65), some (.int more), some (.int k), some (.int x6), some (.int x16), o5, o6, o7], [(.ref 65)])) (w1 := w) rfl rfl ?_
            refine s_i (pc1 := 53) (ls1 := [some (.ref 65), some (.int more), some (.int k), some (.int x6), some (.int x16), o5, o6, o7]) (st1 := [(.ref 65)]) rfl rfl fun x23 e24 => ?_
            have e24t : x23.toInt = 36 := by rw [e24]; rfl
            refine aw_step (f1 := (55, [some (.ref 65), some (.int more), some (.int k), some (.int x6), some (.int x16), o5, o6, o7], [(.int x16), (.int x23), (.ref 65)])) (w1 := w) rfl rfl ?_
            refine s_i (pc1 := 56) (ls1 := [some (.ref 65), some (.int more), some (.int k), some (.int x6), some (.int x16), o5, o6, o7]) (st1 := [(.ref 65)]) rfl rfl fun x25 e26 => ?_
            have e26 : x25 = x23 - x16 := e26
            have e26t : x25.toInt = x23.toInt - x16.toInt := by rw [e26]; exact n_sub (by omega) (by omega)
            refine aw_step (f1 := (57, [some (.ref 65), some (.int more), some (.int k), some (.int x6), some (.int x16), o5, o6, o7], [(.int x6), (.int x25), (.ref 65)])) (w1 := w) rfl rfl ?_
            refine s_i (pc1 := 58) (ls1 := [some (.ref 65), some (.int more), some (.int k), some (.int x6), some (.int x16), o5, o6, o7]) (st1 := [(.ref 65)]) rfl rfl fun x27 e28 => ?_
            have e28 : x27 = x25 + x6 := e28
            have e28t : x27.toInt = x25.toInt + x6.toInt := by rw [e28]; exact n_add (by omega) (by omega)
            refine aw_step (f1 := (59, [some (.ref 65), some (.int more), some (.int k), some (.int x6), some (.int x16), o5, o6, o7], [(.ref 65), (.int x27), (.ref 65)])) (w1 := w) rfl rfl ?_
            refine s_gr 78 J 62 rfl rfl rfl rfl rfl rfl ?_
            refine aw_step (f1 := (63, [some (.ref 65), some (.int more), some (.int k), some (.int x6), some (.int x16), o5, o6, o7], [(.int k), (.ref 78), (.int x27), (.ref 65)])) (w1 := w) rfl rfl ?_
            refine s_ia J 64 rfl rfl rfl rfl (by omega) (by omega) fun x29 x29a x29b x29f => ?_
            refine s_i (pc1 := 65) (ls1 := [some (.ref 65), some (.int more), some (.int k), some (.int x6), some (.int x16), o5, o6, o7]) (st1 := [(.int x29), (.int x27), (.ref 65)]) rfl rfl fun x30 e31 => ?_
            have e31t : x30.toInt = 1 := by rw [e31]; rfl
            refine s_i (pc1 := 66) (ls1 := [some (.ref 65), some (.int more), some (.int k), some (.int x6), some (.int x16), o5, o6, o7]) (st1 := [(.int x27), (.ref 65)]) rfl rfl fun x32 e33 => ?_
            have e33 : x32 = x29 + x30 := e33
            have e33t : x32.toInt = x29.toInt + x30.toInt := by rw [e33]; exact n_add (by omega) (by omega)
            refine s_cv (z := 147) (p := 65) (as := [(.int x27), (.int x32)]) (st1 := []) J 69 rfl rfl rfl rfl rfl rfl rfl rfl (Nat.le_of_ble_eq_true rfl) (Nat.le_of_ble_eq_true rfl) (q_cheapen x27 x32 ⟨by omega, by omega⟩ (by omega) J.1) ?_
            rintro _ w35 ⟨x34, rfl, J36c, w35o, w35p⟩
            have J36 := J.trans J36c
            refine ⟨am_len2 J J36c, ?_⟩
            show aw none _ 149 _ (69, [some (.ref 65), some (.int more), some (.int k), some (.int x6), some (.int x16), o5, o6, o7], [(.int x34)]) w35
            have w35s := w35p.s (by omega)
            have w35z := w35o.sz (by decide)
            refine aw_step (f1 := (71, [some (.ref 65), some (.int more), some (.int k), some (.int x6), some (.int x16), some (.int x34), o6, o7], [])) (w1 := w35) rfl rfl ?_
            refine aw_step (f1 := (72, [some (.ref 65), some (.int more), some (.int k), some (.int x6), some (.int x16), some (.int x34), o6, o7], [(.int more)])) (w1 := w35) rfl rfl ?_
            refine s_if 80 75 rfl rfl rfl (fun (h37 : ¬ more.toInt = 0) => ?_) (fun (h37 : ¬ (¬ more.toInt = 0)) => ?_)
            · --
              refine s_i (pc1 := 81) (ls1 := [some (.ref 65), some (.int more), some (.int k), some (.int x6), some (.int x16), some (.int x34), o6, o7]) (st1 := []) rfl rfl fun x38 e39 => ?_
              have e39t : x38.toInt = 1 := by rw [e39]; rfl
              refine aw_step (f1 := (85, [some (.ref 65), some (.int more), some (.int k), some (.int x6), some (.int x16), some (.int x34), o6, o7], [(.int x38)])) (w1 := w35) rfl rfl ?_
              refine aw_step (f1 := (86, [some (.ref 65), some (.int x38), some (.int k), some (.int x6), some (.int x16), some (.int x34), o6, o7], [])) (w1 := w35) rfl rfl ?_
              refine s_i (pc1 := 87) (ls1 := [some (.ref 65), some (.int x38), some (.int k), some (.int x6), some (.int x16), some (.int x34), o6, o7]) (st1 := []) rfl rfl fun x40 e41 => ?_
              have e41t : x40.toInt = 0 := by rw [e41]; rfl
              refine aw_step (f1 := (89, [some (.ref 65), some (.int x38), some (.int k), some (.int x6), some (.int x16), some (.int x40), o6, o7], [])) (w1 := w35) rfl rfl ?_
              refine q_chI (z := z) (s0 := s0) k x6 x16 ⟨by omega, by omega⟩ ⟨by omega, by omega⟩ (by omega) (fun wq mq o5q o6q o7q Jq zq Rq => ?_) 37 w35 x38 x40 _ _ (by omega) (by omega) (by omega) J36 (by omega) (by omega)
              refine aw_step (f1 := (183, [some (.ref 65), some (.int mq), some (.int (k + Int32.ofInt 1)), some (.int x6), some (.int x16), o5q, o6q, o7q], [])) (w1 := wq) rfl rfl ?_
              obtain ⟨zx1, zx1e⟩ : ∃ z, z = (k + Int32.ofInt 1) := ⟨_, rfl⟩
              have zx1t : zx1.toInt = k.toInt + (1) := by rw [zx1e]; exact n_add (y := Int32.ofInt (1)) (by show _ ≤ _ + (1 : Int); omega) (by show _ + (1 : Int) ≤ _; omega)
              rw [← zx1e]
              refine aw_step (f1 := (4, [some (.ref 65), some (.int mq), some (.int zx1), some (.int x6), some (.int x16), o5q, o6q, o7q], [])) (w1 := wq) rfl rfl ?_
              exact ih wq mq zx1 _ _ _ _ _ (by omega) (by omega) (by omega) Jq (by omega) (by omega)
            · --
              refine aw_step (f1 := (77, [some (.ref 65), some (.int more), some (.int k), some (.int x6), some (.int x16), some (.int x34), o6, o7], [(.int x34)])) (w1 := w35) rfl rfl ?_
              refine s_if 84 80 rfl rfl rfl (fun (h42 : x34.toInt = 0) => ?_) (fun (h42 : ¬ (x34.toInt = 0)) => ?_)
              · --
                refine s_i (pc1 := 85) (ls1 := [some (.ref 65), some (.int more), some (.int k), some (.int x6), some (.int x16), some (.int x34), o6, o7]) (st1 := []) rfl rfl fun x43 e44 => ?_
                have e44t : x43.toInt = 0 := by rw [e44]; rfl
                refine aw_step (f1 := (86, [some (.ref 65), some (.int x43), some (.int k), some (.int x6), some (.int x16), some (.int x34), o6, o7], [])) (w1 := w35) rfl rfl ?_
                refine s_i (pc1 := 87) (ls1 := [some (.ref 65), some (.int x43), some (.int k), some (.int x6), some (.int x16), some (.int x34), o6, o7]) (st1 := []) rfl rfl fun x45 e46 => ?_
                have e46t : x45.toInt = 0 := by rw [e46]; rfl
                refine aw_step (f1 := (89, [some (.ref 65), some (.int x43), some (.int k), some (.int x6), some (.int x16), some (.int x45), o6, o7], [])) (w1 := w35) rfl rfl ?_
                refine q_chI (z := z) (s0 := s0) k x6 x16 ⟨by omega, by omega⟩ ⟨by omega, by omega⟩ (by omega) (fun wq mq o5q o6q o7q Jq zq Rq => ?_) 37 w35 x43 x45 _ _ (by omega) (by omega) (by omega) J36 (by omega) (by omega)
                refine aw_step (f1 := (183, [some (.ref 65), some (.int mq), some (.int (k + Int32.ofInt 1)), some (.int x6), some (.int x16), o5q, o6q, o7q], [])) (w1 := wq) rfl rfl ?_
                obtain ⟨zx1, zx1e⟩ : ∃ z, z = (k + Int32.ofInt 1) := ⟨_, rfl⟩
                have zx1t : zx1.toInt = k.toInt + (1) := by rw [zx1e]; exact n_add (y := Int32.ofInt (1)) (by show _ ≤ _ + (1 : Int); omega) (by show _ + (1 : Int) ≤ _; omega)
                rw [← zx1e]
                refine aw_step (f1 := (4, [some (.ref 65), some (.int mq), some (.int zx1), some (.int x6), some (.int x16), o5q, o6q, o7q], [])) (w1 := wq) rfl rfl ?_
                exact ih wq mq zx1 _ _ _ _ _ (by omega) (by omega) (by omega) Jq (by omega) (by omega)
              · --
                refine s_i (pc1 := 81) (ls1 := [some (.ref 65), some (.int more), some (.int k), some (.int x6), some (.int x16), some (.int x34), o6, o7]) (st1 := []) rfl rfl fun x47 e48 => ?_
                have e48t : x47.toInt = 1 := by rw [e48]; rfl
                refine aw_step (f1 := (85, [some (.ref 65), some (.int more), some (.int k), some (.int x6), some (.int x16), some (.int x34), o6, o7], [(.int x47)])) (w1 := w35) rfl rfl ?_
                refine aw_step (f1 := (86, [some (.ref 65), some (.int x47), some (.int k), some (.int x6), some (.int x16), some (.int x34), o6, o7], [])) (w1 := w35) rfl rfl ?_
                refine s_i (pc1 := 87) (ls1 := [some (.ref 65), some (.int x47), some (.int k), some (.int x6), some (.int x16), some (.int x34), o6, o7]) (st1 := []) rfl rfl fun x49 e50 => ?_
                have e50t : x49.toInt = 0 := by rw [e50]; rfl
                refine aw_step (f1 := (89, [some (.ref 65), some (.int x47), some (.int k), some (.int x6), some (.int x16), some (.int x49), o6, o7], [])) (w1 := w35) rfl rfl ?_
                refine q_chI (z := z) (s0 := s0) k x6 x16 ⟨by omega, by omega⟩ ⟨by omega, by omega⟩ (by omega) (fun wq mq o5q o6q o7q Jq zq Rq => ?_) 37 w35 x47 x49 _ _ (by omega) (by omega) (by omega) J36 (by omega) (by omega)
                refine aw_step (f1 := (183, [some (.ref 65), some (.int mq), some (.int (k + Int32.ofInt 1)), some (.int x6), some (.int x16), o5q, o6q, o7q], [])) (w1 := wq) rfl rfl ?_
                obtain ⟨zx1, zx1e⟩ : ∃ z, z = (k + Int32.ofInt 1) := ⟨_, rfl⟩
                have zx1t : zx1.toInt = k.toInt + (1) := by rw [zx1e]; exact n_add (y := Int32.ofInt (1)) (by show _ ≤ _ + (1 : Int); omega) (by show _ + (1 : Int) ≤ _; omega)
                rw [← zx1e]
                refine aw_step (f1 := (4, [some (.ref 65), some (.int mq), some (.int zx1), some (.int x6), some (.int x16), o5q, o6q, o7q], [])) (w1 := wq) rfl rfl ?_
                exact ih wq mq zx1 _ _ _ _ _ (by omega) (by omega) (by omega) Jq (by omega) (by omega)
theorem q_changeOnce {d : Nat} {w : am_W} (I : ab_inv ab_TT ab_sets w) : aw none (d + 3) 149 (fun r w1 => ∃ b : Int32, r = some (.int b) ∧ ab_J ab_TT ab_sets ab_WR w w1 ∧ ((b.toInt = 1 ∧ sC w1 < sC w) ∨ (b.toInt = 0 ∧ sC w1 ≤ sC w))) (0, am_entry 149 [.ref 65], []) w := by
  have J : ab_J ab_TT ab_sets ab_WR w w := ⟨I, ab_fr.rf⟩
  show aw none (d + 3) 149 _ (0, [some (.ref 65), none, none, none, none, none, none, none], []) w
  refine s_i (pc1 := 1) (ls1 := [some (.ref 65), none, none, none, none, none, none, none]) (st1 := []) rfl rfl fun x1 e2 => ?_
  have e2t : x1.toInt = 0 := by rw [e2]; rfl
  refine aw_step (f1 := (2, [some (.ref 65), some (.int x1), none, none, none, none, none, none], [])) (w1 := w) rfl rfl ?_
  refine s_i (pc1 := 3) (ls1 := [some (.ref 65), some (.int x1), none, none, none, none, none, none]) (st1 := []) rfl rfl fun x3 e4 => ?_
  have e4t : x3.toInt = 0 := by rw [e4]; rfl
  refine aw_step (f1 := (4, [some (.ref 65), some (.int x1), some (.int x3), none, none, none, none, none], [])) (w1 := w) rfl rfl ?_
  exact q_chJ (z := szM w) (s0 := sC w) 73 w x1 x3 _ _ _ _ _ (by omega) (by omega) (by omega) J rfl (by omega)
theorem q_chW {d : Nat} {w00 : am_W} (b1 b2 f t wh : Int32) (ht : 0 ≤ t.toInt ∧ t.toInt < 36) : ∀ (m : Nat) (w : am_W) (more : Int32) (o7 : Option Value), (sC w).toNat + more.toInt.toNat < m → (more.toInt = 0 ∨ more.toInt = 1) → ab_J ab_TT ab_sets ab_WR w00 w → aw none (d + 4) 150 (QS w00) (57, [some (.ref 65), some (.int b1), some (.int b2), some (.int f), some (.int t), some (.int wh), some (.int more), o7], []) w := by
  intro m
  induction m with
  | zero => intro w more o7 p; omega
  | succ m ih =>
    intro w more o7 p1 p2 J
    have s0 := sC_0 J.1
    refine aw_step (f1 := (59, [some (.ref 65), some (.int b1), some (.int b2), some (.int f), some (.int t), some (.int wh), some (.int more), o7], [(.int more)])) (w1 := w) rfl rfl ?_
    refine s_if 71 62 rfl rfl rfl (fun (h1 : more.toInt = 0) => ?_) (fun (h1 : ¬ (more.toInt = 0)) => ?_)
    · --
      refine aw_step (f1 := (72, [some (.ref 65), some (.int b1), some (.int b2), some (.int f), some (.int t), some (.int wh), some (.int more), o7], [(.ref 65)])) (w1 := w) rfl rfl ?_
      refine s_gr 78 J 75 rfl rfl rfl rfl rfl rfl ?_
      refine aw_step (f1 := (77, [some (.ref 65), some (.int b1), some (.int b2), some (.int f), some (.int t), some (.int wh), some (.int more), o7], [(.int t), (.ref 78)])) (w1 := w) rfl rfl ?_
      refine s_ia J 78 rfl rfl rfl rfl (by omega) (by omega) fun x2 x2a x2b x2f => ?_
      refine aw_step (f1 := (79, [some (.ref 65), some (.int b1), some (.int b2), some (.int f), some (.int t), some (.int wh), some (.int more), o7], [(.ref 65), (.int x2)])) (w1 := w) rfl rfl ?_
      refine s_gr 78 J 82 rfl rfl rfl rfl rfl rfl ?_
      refine s_i (pc1 := 84) (ls1 := [some (.ref 65), some (.int b1), some (.int b2), some (.int f), some (.int t), some (.int wh), some (.int more), o7]) (st1 := [(.ref 78), (.int x2)]) rfl rfl fun x3 e4 => ?_
      have e4t : x3.toInt = 36 := by rw [e4]; rfl
      refine aw_step (f1 := (86, [some (.ref 65), some (.int b1), some (.int b2), some (.int f), some (.int t), some (.int wh), some (.int more), o7], [(.int t), (.int x3), (.ref 78), (.int x2)])) (w1 := w) rfl rfl ?_
      refine s_i (pc1 := 87) (ls1 := [some (.ref 65), some (.int b1), some (.int b2), some (.int f), some (.int t), some (.int wh), some (.int more), o7]) (st1 := [(.ref 78), (.int x2)]) rfl rfl fun x5 e6 => ?_
      have e6 : x5 = x3 + t := e6
      have e6t : x5.toInt = x3.toInt + t.toInt := by rw [e6]; exact n_add (by omega) (by omega)
      refine s_ia J 88 rfl rfl rfl rfl (by omega) (by omega) fun x7 x7a x7b x7f => ?_
      refine s_ic 101 91 rfl rfl rfl (fun (h8 : x7.toInt ≤ x2.toInt) => ?_) (fun (h8 : ¬ (x7.toInt ≤ x2.toInt)) => ?_)
      · --
        refine aw_step (f1 := (102, [some (.ref 65), some (.int b1), some (.int b2), some (.int f), some (.int t), some (.int wh), some (.int more), o7], [(.ref 65)])) (w1 := w) rfl rfl ?_
        refine s_gr 78 J 105 rfl rfl rfl rfl rfl rfl ?_
        refine s_i (pc1 := 107) (ls1 := [some (.ref 65), some (.int b1), some (.int b2), some (.int f), some (.int t), some (.int wh), some (.int more), o7]) (st1 := [(.ref 78)]) rfl rfl fun x9 e10 => ?_
        have e10t : x9.toInt = 36 := by rw [e10]; rfl
        refine aw_step (f1 := (109, [some (.ref 65), some (.int b1), some (.int b2), some (.int f), some (.int t), some (.int wh), some (.int more), o7], [(.int t), (.int x9), (.ref 78)])) (w1 := w) rfl rfl ?_
        refine s_i (pc1 := 110) (ls1 := [some (.ref 65), some (.int b1), some (.int b2), some (.int f), some (.int t), some (.int wh), some (.int more), o7]) (st1 := [(.ref 78)]) rfl rfl fun x11 e12 => ?_
        have e12 : x11 = x9 + t := e12
        have e12t : x11.toInt = x9.toInt + t.toInt := by rw [e12]; exact n_add (by omega) (by omega)
        refine s_ia J 111 rfl rfl rfl rfl (by omega) (by omega) fun x13 x13a x13b x13f => ?_
        refine aw_step (f1 := (113, [some (.ref 65), some (.int b1), some (.int b2), some (.int f), some (.int t), some (.int wh), some (.int more), some (.int x13)], [])) (w1 := w) rfl rfl ?_
        refine aw_step (f1 := (115, [some (.ref 65), some (.int b1), some (.int b2), some (.int f), some (.int t), some (.int wh), some (.int more), some (.int x13)], [(.int x13)])) (w1 := w) rfl rfl ?_
        refine s_i (pc1 := 117) (ls1 := [some (.ref 65), some (.int b1), some (.int b2), some (.int f), some (.int t), some (.int wh), some (.int more), some (.int x13)]) (st1 := [(.int x13)]) rfl rfl fun x14 e15 => ?_
        have e15t : x14.toInt = 100000 := by rw [e15]; rfl
        refine s_ic 125 120 rfl rfl rfl (fun (h16 : ¬ x13.toInt = x14.toInt) => ?_) (fun (h16 : ¬ (¬ x13.toInt = x14.toInt)) => ?_)
        · --
          refine aw_step (f1 := (127, [some (.ref 65), some (.int b1), some (.int b2), some (.int f), some (.int t), some (.int wh), some (.int more), some (.int x13)], [(.int wh)])) (w1 := w) rfl rfl ?_
          refine s_if 139 130 rfl rfl rfl (fun (h17 : ¬ wh.toInt = 0) => ?_) (fun (h17 : ¬ (¬ wh.toInt = 0)) => ?_)
          · --
            refine aw_step (f1 := (141, [some (.ref 65), some (.int b1), some (.int b2), some (.int f), some (.int t), some (.int wh), some (.int more), some (.int x13)], [(.int x13)])) (w1 := w) rfl rfl ?_
            refine s_i (pc1 := 144) (ls1 := [some (.ref 65), some (.int b1), some (.int b2), some (.int f), some (.int t), some (.int wh), some (.int more), some (.int x13)]) (st1 := [(.int x13)]) rfl rfl fun x18 e19 => ?_
            have e19t : x18.toInt = 1000 := by rw [e19]; rfl
            refine s_dv (f := fun x y => x - x / y * y) 145 rfl rfl (by omega) fun x20 e21 => ?_
            have e21 : x20 = x13 - x13 / x18 * x18 := e21
            have e21t : x20.toInt = x13.toInt % x18.toInt := by rw [e21]; exact n_rem (by omega) (by omega)
            rw [e19t] at e21t
            refine aw_ret (v := some (.int x20)) rfl rfl ?_
            exact ⟨J, x20, rfl⟩
          · --
            refine aw_step (f1 := (132, [some (.ref 65), some (.int b1), some (.int b2), some (.int f), some (.int t), some (.int wh), some (.int more), some (.int x13)], [(.int x13)])) (w1 := w) rfl rfl ?_
            refine s_i (pc1 := 135) (ls1 := [some (.ref 65), some (.int b1), some (.int b2), some (.int f), some (.int t), some (.int wh), some (.int more), some (.int x13)]) (st1 := [(.int x13)]) rfl rfl fun x22 e23 => ?_
            have e23t : x22.toInt = 1000 := by rw [e23]; rfl
            refine s_dv (f := fun x y => x / y) 136 rfl rfl (by omega) fun x24 e25 => ?_
            have e25 : x24 = x13 / x22 := e25
            have e25t : x24.toInt = x13.toInt / x22.toInt := by rw [e25]; exact n_div (by omega) (by omega)
            rw [e23t] at e25t
            refine aw_step (f1 := (145, [some (.ref 65), some (.int b1), some (.int b2), some (.int f), some (.int t), some (.int wh), some (.int more), some (.int x13)], [(.int x24)])) (w1 := w) rfl rfl ?_
            refine aw_ret (v := some (.int x24)) rfl rfl ?_
            exact ⟨J, x24, rfl⟩
        · --
          refine s_i (pc1 := 122) (ls1 := [some (.ref 65), some (.int b1), some (.int b2), some (.int f), some (.int t), some (.int wh), some (.int more), some (.int x13)]) (st1 := []) rfl rfl fun x26 e27 => ?_
          have e27t : x26.toInt = -6 := by rw [e27]; rfl
          refine aw_step (f1 := (145, [some (.ref 65), some (.int b1), some (.int b2), some (.int f), some (.int t), some (.int wh), some (.int more), some (.int x13)], [(.int x26)])) (w1 := w) rfl rfl ?_
          refine aw_ret (v := some (.int x26)) rfl rfl ?_
          exact ⟨J, x26, rfl⟩
      · --
        refine aw_step (f1 := (92, [some (.ref 65), some (.int b1), some (.int b2), some (.int f), some (.int t), some (.int wh), some (.int more), o7], [(.ref 65)])) (w1 := w) rfl rfl ?_
        refine s_gr 78 J 95 rfl rfl rfl rfl rfl rfl ?_
        refine aw_step (f1 := (97, [some (.ref 65), some (.int b1), some (.int b2), some (.int f), some (.int t), some (.int wh), some (.int more), o7], [(.int t), (.ref 78)])) (w1 := w) rfl rfl ?_
        refine s_ia J 98 rfl rfl rfl rfl (by omega) (by omega) fun x28 x28a x28b x28f => ?_
        refine aw_step (f1 := (111, [some (.ref 65), some (.int b1), some (.int b2), some (.int f), some (.int t), some (.int wh), some (.int more), o7], [(.int x28)])) (w1 := w) rfl rfl ?_
        refine aw_step (f1 := (113, [some (.ref 65), some (.int b1), some (.int b2), some (.int f), some (.int t), some (.int wh), some (.int more), some (.int x28)], [])) (w1 := w) rfl rfl ?_
        refine aw_step (f1 := (115, [some (.ref 65), some (.int b1), some (.int b2), some (.int f), some (.int t), some (.int wh), some (.int more), some (.int x28)], [(.int x28)])) (w1 := w) rfl rfl ?_
        refine s_i (pc1 := 117) (ls1 := [some (.ref 65), some (.int b1), some (.int b2), some (.int f), some (.int t), some (.int wh), some (.int more), some (.int x28)]) (st1 := [(.int x28)]) rfl rfl fun x29 e30 => ?_
        have e30t : x29.toInt = 100000 := by rw [e30]; rfl
        refine s_ic 125 120 rfl rfl rfl (fun (h31 : ¬ x28.toInt = x29.toInt) => ?_) (fun (h31 : ¬ (¬ x28.toInt = x29.toInt)) => ?_)
        · --
          refine aw_step (f1 := (127, [some (.ref 65), some (.int b1), some (.int b2), some (.int f), some (.int t), some (.int wh), some (.int more), some (.int x28)], [(.int wh)])) (w1 := w) rfl rfl ?_
          refine s_if 139 130 rfl rfl rfl (fun (h32 : ¬ wh.toInt = 0) => ?_) (fun (h32 : ¬ (¬ wh.toInt = 0)) => ?_)
          · --
            refine aw_step (f1 := (141, [some (.ref 65), some (.int b1), some (.int b2), some (.int f), some (.int t), some (.int wh), some (.int more), some (.int x28)], [(.int x28)])) (w1 := w) rfl rfl ?_
            refine s_i (pc1 := 144) (ls1 := [some (.ref 65), some (.int b1), some (.int b2), some (.int f), some (.int t), some (.int wh), some (.int more), some (.int x28)]) (st1 := [(.int x28)]) rfl rfl fun x33 e34 => ?_
            have e34t : x33.toInt = 1000 := by rw [e34]; rfl
            refine s_dv (f := fun x y => x - x / y * y) 145 rfl rfl (by omega) fun x35 e36 => ?_
            have e36 : x35 = x28 - x28 / x33 * x33 := e36
            have e36t : x35.toInt = x28.toInt % x33.toInt := by rw [e36]; exact n_rem (by omega) (by omega)
            rw [e34t] at e36t
            refine aw_ret (v := some (.int x35)) rfl rfl ?_
            exact ⟨J, x35, rfl⟩
          · --
            refine aw_step (f1 := (132, [some (.ref 65), some (.int b1), some (.int b2), some (.int f), some (.int t), some (.int wh), some (.int more), some (.int x28)], [(.int x28)])) (w1 := w) rfl rfl ?_
            refine s_i (pc1 := 135) (ls1 := [some (.ref 65), some (.int b1), some (.int b2), some (.int f), some (.int t), some (.int wh), some (.int more), some (.int x28)]) (st1 := [(.int x28)]) rfl rfl fun x37 e38 => ?_
            have e38t : x37.toInt = 1000 := by rw [e38]; rfl
            refine s_dv (f := fun x y => x / y) 136 rfl rfl (by omega) fun x39 e40 => ?_
            have e40 : x39 = x28 / x37 := e40
            have e40t : x39.toInt = x28.toInt / x37.toInt := by rw [e40]; exact n_div (by omega) (by omega)
            rw [e38t] at e40t
            refine aw_step (f1 := (145, [some (.ref 65), some (.int b1), some (.int b2), some (.int f), some (.int t), some (.int wh), some (.int more), some (.int x28)], [(.int x39)])) (w1 := w) rfl rfl ?_
            refine aw_ret (v := some (.int x39)) rfl rfl ?_
            exact ⟨J, x39, rfl⟩
        · --
          refine s_i (pc1 := 122) (ls1 := [some (.ref 65), some (.int b1), some (.int b2), some (.int f), some (.int t), some (.int wh), some (.int more), some (.int x28)]) (st1 := []) rfl rfl fun x41 e42 => ?_
          have e42t : x41.toInt = -6 := by rw [e42]; rfl
          refine aw_step (f1 := (145, [some (.ref 65), some (.int b1), some (.int b2), some (.int f), some (.int t), some (.int wh), some (.int more), some (.int x28)], [(.int x41)])) (w1 := w) rfl rfl ?_
          refine aw_ret (v := some (.int x41)) rfl rfl ?_
          exact ⟨J, x41, rfl⟩
    · --
      refine aw_step (f1 := (63, [some (.ref 65), some (.int b1), some (.int b2), some (.int f), some (.int t), some (.int wh), some (.int more), o7], [(.ref 65)])) (w1 := w) rfl rfl ?_
      refine s_cv (z := 149) (p := 65) (as := []) (st1 := []) J 66 rfl rfl rfl rfl rfl rfl rfl rfl (Nat.le_of_ble_eq_true rfl) (Nat.le_of_ble_eq_true rfl) (q_changeOnce J.1) ?_
      rintro _ w44 ⟨x43, rfl, J45c, w44p⟩
      have J45 := J.trans J45c
      refine ⟨am_len2 J J45c, ?_⟩
      show aw none _ 150 _ (66, [some (.ref 65), some (.int b1), some (.int b2), some (.int f), some (.int t), some (.int wh), some (.int more), o7], [(.int x43)]) w44
      refine aw_step (f1 := (68, [some (.ref 65), some (.int b1), some (.int b2), some (.int f), some (.int t), some (.int wh), some (.int x43), o7], [])) (w1 := w44) rfl rfl ?_
      refine aw_step (f1 := (57, [some (.ref 65), some (.int b1), some (.int b2), some (.int f), some (.int t), some (.int wh), some (.int x43), o7], [])) (w1 := w44) rfl rfl ?_
      have s1 := sC_0 J45.1
      exact ih w44 x43 _ (by omega) (by omega) J45
theorem q_changed {d : Nat} {w : am_W} (b1 b2 f t wh : Int32) (I : ab_inv ab_TT ab_sets w) : aw none (d + 6) 150 (QS w) (0, am_entry 150 [.ref 65, .int b1, .int b2, .int f, .int t, .int wh], []) w := by
  have J : ab_J ab_TT ab_sets ab_WR w w := ⟨I, ab_fr.rf⟩
  have sz := szM_in I
  show aw none (d + 6) 150 _ (0, [some (.ref 65), some (.int b1), some (.int b2), some (.int f), some (.int t), some (.int wh), none, none], []) w
  refine aw_step (f1 := (1, [some (.ref 65), some (.int b1), some (.int b2), some (.int f), some (.int t), some (.int wh), none, none], [(.ref 65)])) (w1 := w) rfl rfl ?_
  refine aw_step (f1 := (2, [some (.ref 65), some (.int b1), some (.int b2), some (.int f), some (.int t), some (.int wh), none, none], [(.int b1), (.ref 65)])) (w1 := w) rfl rfl ?_
  refine aw_step (f1 := (3, [some (.ref 65), some (.int b1), some (.int b2), some (.int f), some (.int t), some (.int wh), none, none], [(.int f), (.int b1), (.ref 65)])) (w1 := w) rfl rfl ?_
  refine aw_step (f1 := (5, [some (.ref 65), some (.int b1), some (.int b2), some (.int f), some (.int t), some (.int wh), none, none], [(.int t), (.int f), (.int b1), (.ref 65)])) (w1 := w) rfl rfl ?_
  refine s_cv (z := 143) (p := 65) (as := [(.int b1), (.int f), (.int t)]) (st1 := []) J 8 rfl rfl rfl rfl rfl rfl rfl rfl (Nat.le_of_ble_eq_true rfl) (Nat.le_of_ble_eq_true rfl) (q_isAsked b1 f t J.1) ?_
  rintro _ _ ⟨rfl, x1, rfl, x1t⟩
  refine ⟨rfl, ?_⟩
  show aw none _ 150 _ (8, [some (.ref 65), some (.int b1), some (.int b2), some (.int f), some (.int t), some (.int wh), none, none], [(.int x1)]) w
  have x1s := szM_in J.1
  refine s_if 23 11 rfl rfl rfl (fun (h2 : x1.toInt = 0) => ?_) (fun (h2 : ¬ (x1.toInt = 0)) => ?_)
  · --
    refine s_i (pc1 := 24) (ls1 := [some (.ref 65), some (.int b1), some (.int b2), some (.int f), some (.int t), some (.int wh), none, none]) (st1 := []) rfl rfl fun x3 e4 => ?_
    have e4t : x3.toInt = -1 := by rw [e4]; rfl
    refine aw_ret (v := some (.int x3)) rfl rfl ?_
    exact ⟨J, x3, rfl⟩
  · --
    refine aw_step (f1 := (12, [some (.ref 65), some (.int b1), some (.int b2), some (.int f), some (.int t), some (.int wh), none, none], [(.int b2)])) (w1 := w) rfl rfl ?_
    refine s_cs (z := 116) (as := [(.int b2)]) (st1 := []) 15 rfl rfl rfl rfl rfl rfl (Nat.le_of_ble_eq_true rfl) (Nat.le_of_ble_eq_true rfl) (Nat.le_of_ble_eq_true rfl) (q_areBoots b2) ?_
    rintro _ _ ⟨rfl, x5, rfl, x5t⟩
    refine ⟨rfl, ?_⟩
    show aw none _ 150 _ (15, [some (.ref 65), some (.int b1), some (.int b2), some (.int f), some (.int t), some (.int wh), none, none], [(.int x5)]) w
    refine s_if 23 18 rfl rfl rfl (fun (h6 : x5.toInt = 0) => ?_) (fun (h6 : ¬ (x5.toInt = 0)) => ?_)
    · --
      refine s_i (pc1 := 24) (ls1 := [some (.ref 65), some (.int b1), some (.int b2), some (.int f), some (.int t), some (.int wh), none, none]) (st1 := []) rfl rfl fun x7 e8 => ?_
      have e8t : x7.toInt = -1 := by rw [e8]; rfl
      refine aw_ret (v := some (.int x7)) rfl rfl ?_
      exact ⟨J, x7, rfl⟩
    · --
      refine aw_step (f1 := (19, [some (.ref 65), some (.int b1), some (.int b2), some (.int f), some (.int t), some (.int wh), none, none], [(.int b1)])) (w1 := w) rfl rfl ?_
      refine aw_step (f1 := (20, [some (.ref 65), some (.int b1), some (.int b2), some (.int f), some (.int t), some (.int wh), none, none], [(.int b2), (.int b1)])) (w1 := w) rfl rfl ?_
      refine s_ic 25 23 rfl rfl rfl (fun (h9 : ¬ b1.toInt = b2.toInt) => ?_) (fun (h9 : ¬ (¬ b1.toInt = b2.toInt)) => ?_)
      · --
        refine aw_step (f1 := (27, [some (.ref 65), some (.int b1), some (.int b2), some (.int f), some (.int t), some (.int wh), none, none], [(.int wh)])) (w1 := w) rfl rfl ?_
        refine s_l (pc1 := 28) (ls1 := [some (.ref 65), some (.int b1), some (.int b2), some (.int f), some (.int t), some (.int wh), none, none]) (st1 := []) rfl rfl fun y10 e11 => ?_
        have e11t : y10.toInt = wh.toInt := by rw [e11]; exact Int32.toInt_toInt64 wh
        refine s_l (pc1 := 29) (ls1 := [some (.ref 65), some (.int b1), some (.int b2), some (.int f), some (.int t), some (.int wh), none, none]) (st1 := [(.long y10)]) rfl rfl fun y12 e13 => ?_
        have e13t : y12.toInt = 0 := by rw [e13]; rfl
        refine s_l (pc1 := 30) (ls1 := [some (.ref 65), some (.int b1), some (.int b2), some (.int f), some (.int t), some (.int wh), none, none]) (st1 := [(.long y12), (.long y10)]) rfl rfl fun y14 e15 => ?_
        have e15t : y14.toInt = 1 := by rw [e15]; rfl
        refine s_cs (z := 108) (as := [(.long y10), (.long y12), (.long y14)]) (st1 := []) 33 rfl rfl rfl rfl rfl rfl (Nat.le_of_ble_eq_true rfl) (Nat.le_of_ble_eq_true rfl) (Nat.le_of_ble_eq_true rfl) (q_in2 y10 y12 y14) ?_
        rintro _ _ ⟨rfl, x16, rfl, x16t⟩
        refine ⟨rfl, ?_⟩
        show aw none _ 150 _ (33, [some (.ref 65), some (.int b1), some (.int b2), some (.int f), some (.int t), some (.int wh), none, none], [(.int x16)]) w
        refine s_if 39 36 rfl rfl rfl (fun (h17 : ¬ x16.toInt = 0) => ?_) (fun (h17 : ¬ (¬ x16.toInt = 0)) => ?_)
        · --
          refine aw_step (f1 := (40, [some (.ref 65), some (.int b1), some (.int b2), some (.int f), some (.int t), some (.int wh), none, none], [(.ref 65)])) (w1 := w) rfl rfl ?_
          refine aw_step (f1 := (41, [some (.ref 65), some (.int b1), some (.int b2), some (.int f), some (.int t), some (.int wh), none, none], [(.int b1), (.ref 65)])) (w1 := w) rfl rfl ?_
          refine s_cv (z := 133) (p := 65) (as := [(.int b1)]) (st1 := []) J 44 rfl rfl rfl rfl rfl rfl rfl rfl (Nat.le_of_ble_eq_true rfl) (Nat.le_of_ble_eq_true rfl) (q_putOn b1 ⟨by omega, by omega⟩ J.1) ?_
          rintro _ w18 ⟨rfl, J19c, w18o, w18p⟩
          have J19 := J.trans J19c
          refine ⟨am_len2 J J19c, ?_⟩
          show aw none _ 150 _ (44, [some (.ref 65), some (.int b1), some (.int b2), some (.int f), some (.int t), some (.int wh), none, none], []) w18
          have zo := w18o.sz (by decide)
          refine aw_step (f1 := (45, [some (.ref 65), some (.int b1), some (.int b2), some (.int f), some (.int t), some (.int wh), none, none], [(.ref 65)])) (w1 := w18) rfl rfl ?_
          refine aw_step (f1 := (46, [some (.ref 65), some (.int b1), some (.int b2), some (.int f), some (.int t), some (.int wh), none, none], [(.int b2), (.ref 65)])) (w1 := w18) rfl rfl ?_
          refine s_cv (z := 134) (p := 65) (as := [(.int b2)]) (st1 := []) J19 49 rfl rfl rfl rfl rfl rfl rfl rfl (Nat.le_of_ble_eq_true rfl) (Nat.le_of_ble_eq_true rfl) (q_layOther b2 ⟨by omega, by omega⟩ J19.1) ?_
          rintro _ w20 ⟨rfl, J21c, w20o, w20p⟩
          have J21 := J19.trans J21c
          refine ⟨am_len2 J19 J21c, ?_⟩
          show aw none _ 150 _ (49, [some (.ref 65), some (.int b1), some (.int b2), some (.int f), some (.int t), some (.int wh), none, none], []) w20
          have zo2 := w20o.sz (by decide)
          refine aw_step (f1 := (50, [some (.ref 65), some (.int b1), some (.int b2), some (.int f), some (.int t), some (.int wh), none, none], [(.ref 65)])) (w1 := w20) rfl rfl ?_
          refine aw_step (f1 := (51, [some (.ref 65), some (.int b1), some (.int b2), some (.int f), some (.int t), some (.int wh), none, none], [(.int f), (.ref 65)])) (w1 := w20) rfl rfl ?_
          refine s_cv (z := 146) (p := 65) (as := [(.int f)]) (st1 := []) J21 54 rfl rfl rfl rfl rfl rfl rfl rfl (Nat.le_of_ble_eq_true rfl) (Nat.le_of_ble_eq_true rfl) (q_beginCosts f ⟨by omega, by omega⟩ J21.1) ?_
          rintro _ w22 ⟨rfl, J23c, w22o, w22p⟩
          have J23 := J21.trans J23c
          refine ⟨am_len2 J21 J23c, ?_⟩
          show aw none _ 150 _ (54, [some (.ref 65), some (.int b1), some (.int b2), some (.int f), some (.int t), some (.int wh), none, none], []) w22
          refine s_i (pc1 := 55) (ls1 := [some (.ref 65), some (.int b1), some (.int b2), some (.int f), some (.int t), some (.int wh), none, none]) (st1 := []) rfl rfl fun x24 e25 => ?_
          have e25t : x24.toInt = 1 := by rw [e25]; rfl
          refine aw_step (f1 := (57, [some (.ref 65), some (.int b1), some (.int b2), some (.int f), some (.int t), some (.int wh), some (.int x24), none], [])) (w1 := w22) rfl rfl ?_
          exact q_chW b1 b2 f t wh ⟨by omega, by omega⟩ ((sC w22).toNat + 2) w22 x24 _ (by omega) (by omega) J23
        · --
          refine s_i (pc1 := 38) (ls1 := [some (.ref 65), some (.int b1), some (.int b2), some (.int f), some (.int t), some (.int wh), none, none]) (st1 := []) rfl rfl fun x26 e27 => ?_
          have e27t : x26.toInt = -2 := by rw [e27]; rfl
          refine aw_ret (v := some (.int x26)) rfl rfl ?_
          exact ⟨J, x26, rfl⟩
      · --
        refine s_i (pc1 := 24) (ls1 := [some (.ref 65), some (.int b1), some (.int b2), some (.int f), some (.int t), some (.int wh), none, none]) (st1 := []) rfl rfl fun x28 e29 => ?_
        have e29t : x28.toInt = -1 := by rw [e29]; rfl
        refine aw_ret (v := some (.int x28)) rfl rfl ?_
        exact ⟨J, x28, rfl⟩
