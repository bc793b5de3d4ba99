/-! ===== every public method keeps what is to be kept ===== -/
set_option maxRecDepth 100000 in
theorem W0_a : ∀ j, j < 40 → sc am_W0 3 j = fld am_W0 j := by decide +kernel
set_option maxRecDepth 100000 in
theorem W0_b : ∀ c, c < 16 → rI am_W0 (3 + 1) c = fld am_W0 (40 + c) ∧ rI am_W0 (3 + 2) c = (c : Int) / fld am_W0 1 ∧ rI am_W0 (3 + 3) c = (c : Int) % fld am_W0 1 := by decide +kernel
set_option maxRecDepth 100000 in
theorem W0_c : ∀ c, c < 16 → bt 65535 c = 1 ∧ fld am_W0 (40 + c) ≠ 126 := by decide +kernel
set_option maxRecDepth 100000 in
theorem W0_d : szV (fld am_W0) = 16 ∧ fL am_W0 3 5 = 65535 ∧ fI am_W0 1 1 = 0 ∧ fI am_W0 65 16 = 0 ∧ fld am_W0 6 = 0 ∧ (∀ n, n < 2 → rI am_W0 15 n = 0) ∧ (∀ n, n < 2 → rI am_W0 88 n = 0) := by decide +kernel
set_option maxRecDepth 100000 in
theorem W0_e : am_row am_W0 73 = am_row am_W0 2 := by decide +kernel
set_option maxRecDepth 100000 in
theorem W0_f : fld am_W0 0 = 4 ∧ fld am_W0 1 = 4 ∧ fld am_W0 2 = 0 ∧ fld am_W0 7 = 0 ∧ fld am_W0 40 = 46 := by decide +kernel
theorem W0_g : gV (fld am_W0) := by
  obtain ⟨d1, d2, d3, d4, d5, d6, d7⟩ := W0_d
  obtain ⟨f0, f1, f2, f7, f40⟩ := W0_f
  unfold gV ldV
  rw [d5, f0, f1, f2, f7, d1]
  refine ⟨by decide, by decide, ⟨by decide, by decide, by show fld am_W0 40 ≠ 126; rw [f40]; decide⟩, fun p hp h => ?_, fun i hi => by omega⟩
  have h : bt 0 p = 1 := h
  rw [bt_z] at h; omega
theorem W0_TI : TI am_W0 := by
  obtain ⟨d1, d2, d3, d4, d5, d6, d7⟩ := W0_d
  refine ⟨W0_SI, 0, rI am_W0 2, fld am_W0, fun _ => 0, fun _ _ => 0, ⟨Int.le_refl _, W0_g, fun a ha h => absurd (show (0 : Int) = 1 from h) (by decide)⟩, ⟨⟨d3, fun j => rfl⟩, ⟨W0_a, fun c hc => W0_b c (by rw [d1] at hc; omega), fun c => ?_⟩, d6, fun a ha h => absurd (show (0 : Int) = 1 from h) (by decide)⟩, ⟨d4, fun j => by unfold rI; rw [W0_e]⟩, fun j hj => rfl, d7, fun a ha h => absurd (show (0 : Int) = 1 from h) (by decide)⟩
  rw [d1, d2]
  by_cases h : c < 16
  · have := W0_c c h
    exact ⟨fun _ => ⟨by omega, this.2⟩, fun _ => this.1⟩
  · have : bt 65535 c = 0 := bt_hi (m := 16) (by decide) (by omega)
    exact ⟨fun q => by omega, fun q => by omega⟩
theorem U_home {V : Nat → Int} (a0 : Int32) {b b2 : Int} {V1 V2 : Nat → Int} (h : hmP V a0.toInt b V1) (g : hmP V a0.toInt b2 V2) : b2 = b ∧ V2 = V1 := by
  rcases h with ⟨h1, h2, hV⟩ | ⟨h1, h2, h3, hV⟩ | ⟨h1, h2, h3, hV⟩ <;> rcases g with ⟨g1, g2, gV2⟩ | ⟨g1, g2, g3, gV2⟩ | ⟨g1, g2, g3, gV2⟩
  all_goals first
    | (exfalso; omega)
    | exact ⟨by omega, by rw [gV2, hV]⟩
theorem G_home {V : Nat → Int} (a0 : Int32) {b : Int} {V1 : Nat → Int} (so : sOK V) (g : gV V) (h : hmP V a0.toInt b V1) : gV V1 := by
  have s7 := so.2.2.2.2.2.2.1
  rcases h with ⟨h1, h2, hV⟩ | ⟨h1, h2, h3, hV⟩ | ⟨h1, h2, h3, hV⟩
  · rw [hV]; exact g
  · rw [hV]; exact g
  · rw [hV]; exact g.home ⟨h2.1, h2.2, h3⟩
theorem tc_home {w : am_W} (a0 : Int32) (H : TI w) : aw none 40 66 (fun r w1 => (ab_inv ab_TT ab_sets w1 ∧ w1.length = w.length) ∧ ∃ b : Int32, r = some (.int b) ∧ MMs (fun V b V1 => hmP V a0.toInt b V1) b.toInt w1) (0, am_entry 66 [.ref 0, .int a0], []) w := tcs (S := (fun V b V1 => hmP V a0.toInt b V1)) H fun V R g => (e_home (d := 0) R a0 H.inv).deep (by omega)
theorem tm_home {w : am_W} (a0 : Int32) {b : Int} (M : MMs (fun V b V1 => hmP V a0.toInt b V1) b w) : aw none 40 126 (fun r w1 => (TI w1 ∧ w1.length = w.length) ∧ ∃ z : Int32, r = some (.int z) ∧ z.toInt = b) (0, am_entry 126 [.ref 65, .int a0], []) w := tms (S := (fun V b V1 => hmP V a0.toInt b V1)) M (fun V R g => (f_home (d := 0) R a0 M.1.1).deep (by omega)) (fun V b V1 b2 V2 h g => U_home a0 h g) (fun V b V1 so g h => G_home a0 so g h)
theorem U_change {V : Nat → Int} (a0 : Int32) (a1 : Int32) {b b2 : Int} {V1 V2 : Nat → Int} (h : cgP V a0 a1.toInt b V1) (g : cgP V a0 a1.toInt b2 V2) : b2 = b ∧ V2 = V1 := by
  rcases h with ⟨h1, h2, hV⟩ | ⟨h1, h2, h3, hV⟩ | ⟨h1, h2, h3, hV⟩ <;> rcases g with ⟨g1, g2, gV2⟩ | ⟨g1, g2, g3, gV2⟩ | ⟨g1, g2, g3, gV2⟩
  all_goals first
    | (exfalso; omega)
    | exact ⟨by omega, by rw [gV2, hV]⟩
theorem G_change {V : Nat → Int} (a0 : Int32) (a1 : Int32) {b : Int} {V1 : Nat → Int} (so : sOK V) (g : gV V) (h : cgP V a0 a1.toInt b V1) : gV V1 := by
  have s7 := so.2.2.2.2.2.2.1
  rcases h with ⟨h1, h2, hV⟩ | ⟨h1, h2, h3, hV⟩ | ⟨h1, h2, h3, hV⟩
  · rw [hV]; exact g
  · rw [hV]; exact g
  · rw [hV]; exact g.irr (by omega)
theorem tc_change {w : am_W} (a0 : Int32) (a1 : Int32) (ha1 : a1.toInt = 0 ∨ a1.toInt = 1) (H : TI w) : aw none 40 67 (fun r w1 => (ab_inv ab_TT ab_sets w1 ∧ w1.length = w.length) ∧ ∃ b : Int32, r = some (.int b) ∧ MMs (fun V b V1 => cgP V a0 a1.toInt b V1) b.toInt w1) (0, am_entry 67 [.ref 0, .int a0, .int a1], []) w := tcs (S := (fun V b V1 => cgP V a0 a1.toInt b V1)) H fun V R g => (e_change (d := 0) R a0 a1 ha1 H.inv).deep (by omega)
theorem tm_change {w : am_W} (a0 : Int32) (a1 : Int32) (ha1 : a1.toInt = 0 ∨ a1.toInt = 1) {b : Int} (M : MMs (fun V b V1 => cgP V a0 a1.toInt b V1) b w) : aw none 40 127 (fun r w1 => (TI w1 ∧ w1.length = w.length) ∧ ∃ z : Int32, r = some (.int z) ∧ z.toInt = b) (0, am_entry 127 [.ref 65, .int a0, .int a1], []) w := tms (S := (fun V b V1 => cgP V a0 a1.toInt b V1)) M (fun V R g => (f_change (d := 0) R a0 a1 ha1 M.1.1).deep (by omega)) (fun V b V1 b2 V2 h g => U_change a0 a1 h g) (fun V b V1 so g h => G_change a0 a1 so g h)
theorem U_boots {V : Nat → Int} (a0 : Int32) (a1 : Int32) (a2 : Int32) {b b2 : Int} {V1 V2 : Nat → Int} (h : btP V a0.toInt a1.toInt a2.toInt b V1) (g : btP V a0.toInt a1.toInt a2.toInt b2 V2) : b2 = b ∧ V2 = V1 := by
  rcases h with ⟨h1, h2, hV⟩ | ⟨h1, h2, h3, h4, hV⟩ | ⟨h1, h2, h3, hV⟩ | ⟨h1, h2, h3, hV⟩ <;> rcases g with ⟨g1, g2, gV2⟩ | ⟨g1, g2, g3, g4, gV2⟩ | ⟨g1, g2, g3, gV2⟩ | ⟨g1, g2, g3, gV2⟩
  all_goals first
    | (exfalso; omega)
    | exact ⟨by omega, by rw [gV2, hV]⟩
theorem G_boots {V : Nat → Int} (a0 : Int32) (a1 : Int32) (a2 : Int32) {b : Int} {V1 : Nat → Int} (so : sOK V) (g : gV V) (h : btP V a0.toInt a1.toInt a2.toInt b V1) : gV V1 := by
  have s7 := so.2.2.2.2.2.2.1
  rcases h with ⟨h1, h2, hV⟩ | ⟨h1, h2, h3, h4, hV⟩ | ⟨h1, h2, h3, hV⟩ | ⟨h1, h2, h3, hV⟩
  · rw [hV]; exact g
  · rw [hV]; exact g
  · rw [hV]; exact g.irr (by omega)
  · rw [hV]; exact g.irr (by omega)
theorem tc_boots {w : am_W} (a0 : Int32) (a1 : Int32) (a2 : Int32) (H : TI w) : aw none 40 68 (fun r w1 => (ab_inv ab_TT ab_sets w1 ∧ w1.length = w.length) ∧ ∃ b : Int32, r = some (.int b) ∧ MMs (fun V b V1 => btP V a0.toInt a1.toInt a2.toInt b V1) b.toInt w1) (0, am_entry 68 [.ref 0, .int a0, .int a1, .int a2], []) w := tcs (S := (fun V b V1 => btP V a0.toInt a1.toInt a2.toInt b V1)) H fun V R g => (e_boots (d := 0) R a0 a1 a2 H.inv).deep (by omega)
theorem tm_boots {w : am_W} (a0 : Int32) (a1 : Int32) (a2 : Int32) {b : Int} (M : MMs (fun V b V1 => btP V a0.toInt a1.toInt a2.toInt b V1) b w) : aw none 40 128 (fun r w1 => (TI w1 ∧ w1.length = w.length) ∧ ∃ z : Int32, r = some (.int z) ∧ z.toInt = b) (0, am_entry 128 [.ref 65, .int a0, .int a1, .int a2], []) w := tms (S := (fun V b V1 => btP V a0.toInt a1.toInt a2.toInt b V1)) M (fun V R g => (f_boots (d := 0) R a0 a1 a2 M.1.1).deep (by omega)) (fun V b V1 b2 V2 h g => U_boots a0 a1 a2 h g) (fun V b V1 so g h => G_boots a0 a1 a2 so g h)
theorem U_minutes {V : Nat → Int} (a0 : Int32) (a1 : Int32) {b b2 : Int} {V1 V2 : Nat → Int} (h : mnP V a0.toInt a1.toInt b V1) (g : mnP V a0.toInt a1.toInt b2 V2) : b2 = b ∧ V2 = V1 := by
  rcases h with ⟨h1, h2, hV⟩ | ⟨h1, h2, hV⟩ | ⟨h1, h2, hV⟩ <;> rcases g with ⟨g1, g2, gV2⟩ | ⟨g1, g2, gV2⟩ | ⟨g1, g2, gV2⟩
  all_goals first
    | (exfalso; omega)
    | exact ⟨by omega, by rw [gV2, hV]⟩
theorem G_minutes {V : Nat → Int} (a0 : Int32) (a1 : Int32) {b : Int} {V1 : Nat → Int} (so : sOK V) (g : gV V) (h : mnP V a0.toInt a1.toInt b V1) : gV V1 := by
  have s7 := so.2.2.2.2.2.2.1
  rcases h with ⟨h1, h2, hV⟩ | ⟨h1, h2, hV⟩ | ⟨h1, h2, hV⟩
  · rw [hV]; exact g
  · rw [hV]; exact g.irr (by omega)
  · rw [hV]; exact g.irr (by omega)
theorem tc_minutes {w : am_W} (a0 : Int32) (a1 : Int32) (H : TI w) : aw none 40 69 (fun r w1 => (ab_inv ab_TT ab_sets w1 ∧ w1.length = w.length) ∧ ∃ b : Int32, r = some (.int b) ∧ MMs (fun V b V1 => mnP V a0.toInt a1.toInt b V1) b.toInt w1) (0, am_entry 69 [.ref 0, .int a0, .int a1], []) w := tcs (S := (fun V b V1 => mnP V a0.toInt a1.toInt b V1)) H fun V R g => (e_minutes (d := 0) R a0 a1 H.inv).deep (by omega)
theorem tm_minutes {w : am_W} (a0 : Int32) (a1 : Int32) {b : Int} (M : MMs (fun V b V1 => mnP V a0.toInt a1.toInt b V1) b w) : aw none 40 129 (fun r w1 => (TI w1 ∧ w1.length = w.length) ∧ ∃ z : Int32, r = some (.int z) ∧ z.toInt = b) (0, am_entry 129 [.ref 65, .int a0, .int a1], []) w := tms (S := (fun V b V1 => mnP V a0.toInt a1.toInt b V1)) M (fun V R g => (f_minutes (d := 0) R a0 a1 M.1.1).deep (by omega)) (fun V b V1 b2 V2 h g => U_minutes a0 a1 h g) (fun V b V1 so g h => G_minutes a0 a1 so g h)
theorem U_person {V : Nat → Int} (a0 : Int32) (a1 : Int32) (a2 : Int32) {b b2 : Int} {V1 V2 : Nat → Int} (h : psP V a0.toInt a1.toInt a2.toInt b V1) (g : psP V a0.toInt a1.toInt a2.toInt b2 V2) : b2 = b ∧ V2 = V1 := by
  rcases h with ⟨h1, h2, hV⟩ | ⟨h1, h2, h3, h4, hV⟩ <;> rcases g with ⟨g1, g2, gV2⟩ | ⟨g1, g2, g3, g4, gV2⟩
  all_goals first
    | (exfalso; omega)
    | exact ⟨by omega, by rw [gV2, hV]⟩
theorem G_person {V : Nat → Int} (a0 : Int32) (a1 : Int32) (a2 : Int32) {b : Int} {V1 : Nat → Int} (so : sOK V) (g : gV V) (h : psP V a0.toInt a1.toInt a2.toInt b V1) : gV V1 := by
  have s7 := so.2.2.2.2.2.2.1
  rcases h with ⟨h1, h2, hV⟩ | ⟨h1, h2, h3, h4, hV⟩
  · rw [hV]; exact g
  · rw [hV]; exact g.person h2 h3
theorem tc_person {w : am_W} (a0 : Int32) (a1 : Int32) (a2 : Int32) (H : TI w) : aw none 40 79 (fun r w1 => (ab_inv ab_TT ab_sets w1 ∧ w1.length = w.length) ∧ ∃ b : Int32, r = some (.int b) ∧ MMs (fun V b V1 => psP V a0.toInt a1.toInt a2.toInt b V1) b.toInt w1) (0, am_entry 79 [.ref 0, .int a0, .int a1, .int a2], []) w := tcs (S := (fun V b V1 => psP V a0.toInt a1.toInt a2.toInt b V1)) H fun V R g => (e_person (d := 0) R a0 a1 a2 g.1 H.inv).deep (by omega)
theorem tm_person {w : am_W} (a0 : Int32) (a1 : Int32) (a2 : Int32) {b : Int} (M : MMs (fun V b V1 => psP V a0.toInt a1.toInt a2.toInt b V1) b w) : aw none 40 157 (fun r w1 => (TI w1 ∧ w1.length = w.length) ∧ ∃ z : Int32, r = some (.int z) ∧ z.toInt = b) (0, am_entry 157 [.ref 65, .int a0, .int a1, .int a2], []) w := tms (S := (fun V b V1 => psP V a0.toInt a1.toInt a2.toInt b V1)) M (fun V R g => (f_person (d := 0) R a0 a1 a2 g.1 M.1.1).deep (by omega)) (fun V b V1 b2 V2 h g => U_person a0 a1 a2 h g) (fun V b V1 so g h => G_person a0 a1 a2 so g h)
theorem U_leave {V : Nat → Int} (a0 : Int32) {b b2 : Int} {V1 V2 : Nat → Int} (h : lvP V a0.toInt b V1) (g : lvP V a0.toInt b2 V2) : b2 = b ∧ V2 = V1 := by
  rcases h with ⟨h1, h2, hV⟩ | ⟨h1, h2, h3, hV⟩ <;> rcases g with ⟨g1, g2, gV2⟩ | ⟨g1, g2, g3, gV2⟩
  all_goals first
    | (exfalso; omega)
    | exact ⟨by omega, by rw [gV2, hV]⟩
theorem G_leave {V : Nat → Int} (a0 : Int32) {b : Int} {V1 : Nat → Int} (so : sOK V) (g : gV V) (h : lvP V a0.toInt b V1) : gV V1 := by
  have s7 := so.2.2.2.2.2.2.1
  rcases h with ⟨h1, h2, hV⟩ | ⟨h1, h2, h3, hV⟩
  · rw [hV]; exact g
  · rw [hV]; exact g.leave h2
theorem tc_leave {w : am_W} (a0 : Int32) (H : TI w) : aw none 40 80 (fun r w1 => (ab_inv ab_TT ab_sets w1 ∧ w1.length = w.length) ∧ ∃ b : Int32, r = some (.int b) ∧ MMs (fun V b V1 => lvP V a0.toInt b V1) b.toInt w1) (0, am_entry 80 [.ref 0, .int a0], []) w := tcs (S := (fun V b V1 => lvP V a0.toInt b V1)) H fun V R g => (e_leave (d := 0) R a0 g.1 H.inv).deep (by omega)
theorem tm_leave {w : am_W} (a0 : Int32) {b : Int} (M : MMs (fun V b V1 => lvP V a0.toInt b V1) b w) : aw none 40 158 (fun r w1 => (TI w1 ∧ w1.length = w.length) ∧ ∃ z : Int32, r = some (.int z) ∧ z.toInt = b) (0, am_entry 158 [.ref 65, .int a0], []) w := tms (S := (fun V b V1 => lvP V a0.toInt b V1)) M (fun V R g => (f_leave (d := 0) R a0 g.1 M.1.1).deep (by omega)) (fun V b V1 b2 V2 h g => U_leave a0 h g) (fun V b V1 so g h => G_leave a0 so g h)
theorem U_seen {V : Nat → Int} (a0 : Int32) (a1 : Int32) {b b2 : Int} {V1 V2 : Nat → Int} (h : snP V a0.toInt a1.toInt b V1) (g : snP V a0.toInt a1.toInt b2 V2) : b2 = b ∧ V2 = V1 := by
  rcases h with ⟨h1, h2, hV⟩ | ⟨h1, h2, h3, hV⟩ | ⟨h1, h2, h3, h4, hV⟩ | ⟨h1, h2, h3, h4, hV⟩ <;> rcases g with ⟨g1, g2, gV2⟩ | ⟨g1, g2, g3, gV2⟩ | ⟨g1, g2, g3, g4, gV2⟩ | ⟨g1, g2, g3, g4, gV2⟩
  all_goals first
    | (exfalso; omega)
    | exact ⟨by omega, by rw [gV2, hV]⟩
theorem G_seen {V : Nat → Int} (a0 : Int32) (a1 : Int32) {b : Int} {V1 : Nat → Int} (so : sOK V) (g : gV V) (h : snP V a0.toInt a1.toInt b V1) : gV V1 := by
  have s7 := so.2.2.2.2.2.2.1
  rcases h with ⟨h1, h2, hV⟩ | ⟨h1, h2, h3, hV⟩ | ⟨h1, h2, h3, h4, hV⟩ | ⟨h1, h2, h3, h4, hV⟩
  · rw [hV]; exact g
  · rw [hV]; exact g
  · rw [hV]; exact g
  · rw [hV]; exact g.seen ⟨s7.1, h4⟩ h2
theorem tc_seen {w : am_W} (a0 : Int32) (a1 : Int32) (H : TI w) : aw none 40 83 (fun r w1 => (ab_inv ab_TT ab_sets w1 ∧ w1.length = w.length) ∧ ∃ b : Int32, r = some (.int b) ∧ MMs (fun V b V1 => snP V a0.toInt a1.toInt b V1) b.toInt w1) (0, am_entry 83 [.ref 0, .int a0, .int a1], []) w := tcs (S := (fun V b V1 => snP V a0.toInt a1.toInt b V1)) H fun V R g => (e_seen (d := 0) R a0 a1 H.inv).deep (by omega)
theorem tm_seen {w : am_W} (a0 : Int32) (a1 : Int32) {b : Int} (M : MMs (fun V b V1 => snP V a0.toInt a1.toInt b V1) b w) : aw none 40 161 (fun r w1 => (TI w1 ∧ w1.length = w.length) ∧ ∃ z : Int32, r = some (.int z) ∧ z.toInt = b) (0, am_entry 161 [.ref 65, .int a0, .int a1], []) w := tms (S := (fun V b V1 => snP V a0.toInt a1.toInt b V1)) M (fun V R g => (f_seen (d := 0) R a0 a1 M.1.1).deep (by omega)) (fun V b V1 b2 V2 h g => U_seen a0 a1 h g) (fun V b V1 so g h => G_seen a0 a1 so g h)
theorem U_forget {V : Nat → Int} {b b2 : Int} {V1 V2 : Nat → Int} (h : fgP V b V1) (g : fgP V b2 V2) : b2 = b ∧ V2 = V1 := by
  exact ⟨by rw [g.1, h.1], by rw [g.2, h.2]⟩
theorem G_forget {V : Nat → Int} {b : Int} {V1 : Nat → Int} (so : sOK V) (g : gV V) (h : fgP V b V1) : gV V1 := by
  have s7 := so.2.2.2.2.2.2.1
  obtain ⟨h1, hV⟩ := h
  · rw [hV]; exact g.forget
theorem tc_forget {w : am_W} (H : TI w) : aw none 40 84 (fun r w1 => (ab_inv ab_TT ab_sets w1 ∧ w1.length = w.length) ∧ ∃ b : Int32, r = some (.int b) ∧ MMs (fun V b V1 => fgP V b V1) b.toInt w1) (0, am_entry 84 [.ref 0], []) w := tcs (S := (fun V b V1 => fgP V b V1)) H fun V R g => (e_forget (d := 0) R  H.inv).deep (by omega)
theorem tm_forget {w : am_W} {b : Int} (M : MMs (fun V b V1 => fgP V b V1) b w) : aw none 40 162 (fun r w1 => (TI w1 ∧ w1.length = w.length) ∧ ∃ z : Int32, r = some (.int z) ∧ z.toInt = b) (0, am_entry 162 [.ref 65], []) w := tms (S := (fun V b V1 => fgP V b V1)) M (fun V R g => (f_forget (d := 0) R  M.1.1).deep (by omega)) (fun V b V1 b2 V2 h g => U_forget h g) (fun V b V1 so g h => G_forget so g h)
theorem U_land {V : Nat → Int} (a0 : Int32) (a1 : Int32) {b b2 : Int} {V1 V2 : Nat → Int} (h : ldP2 V a0.toInt a1.toInt b V1) (g : ldP2 V a0.toInt a1.toInt b2 V2) : b2 = b ∧ V2 = V1 := by
  rcases h with ⟨h1, h2, hV⟩ | ⟨h1, h2, h3, hV⟩ <;> rcases g with ⟨g1, g2, gV2⟩ | ⟨g1, g2, g3, gV2⟩
  all_goals first
    | (exfalso; omega)
    | exact ⟨by omega, by rw [gV2, hV]⟩
theorem G_land {V : Nat → Int} (a0 : Int32) (a1 : Int32) {b : Int} {V1 : Nat → Int} (so : sOK V) (g : gV V) (h : ldP2 V a0.toInt a1.toInt b V1) : gV V1 := by
  have s7 := so.2.2.2.2.2.2.1
  rcases h with ⟨h1, h2, hV⟩ | ⟨h1, h2, h3, hV⟩
  · rw [hV]; exact g
  · rw [hV]; exact gV.plain h2 h3
theorem tc_land {w : am_W} (a0 : Int32) (a1 : Int32) (H : TI w) : aw none 40 60 (fun r w1 => (ab_inv ab_TT ab_sets w1 ∧ w1.length = w.length) ∧ ∃ b : Int32, r = some (.int b) ∧ MMs (fun V b V1 => ldP2 V a0.toInt a1.toInt b V1) b.toInt w1) (0, am_entry 60 [.ref 0, .int a0, .int a1], []) w := tcs (S := (fun V b V1 => ldP2 V a0.toInt a1.toInt b V1)) H fun V R g => (e_land (d := 0) R a0 a1 H.inv).deep (by omega)
theorem tm_land {w : am_W} (a0 : Int32) (a1 : Int32) {b : Int} (M : MMs (fun V b V1 => ldP2 V a0.toInt a1.toInt b V1) b w) : aw none 40 118 (fun r w1 => (TI w1 ∧ w1.length = w.length) ∧ ∃ z : Int32, r = some (.int z) ∧ z.toInt = b) (0, am_entry 118 [.ref 65, .int a0, .int a1], []) w := tms (S := (fun V b V1 => ldP2 V a0.toInt a1.toInt b V1)) M (fun V R g => (f_land (d := 0) R a0 a1 M.1.1).deep (by omega)) (fun V b V1 b2 V2 h g => U_land a0 a1 h g) (fun V b V1 so g h => G_land a0 a1 so g h)
theorem U_say {n : Int} {P : Nat → Int} (a0 : Int32) {b b2 n1 n2 : Int} {P1 P2 : Nat → Int} (h : syP n P a0.toInt b n1 P1) (g : syP n P a0.toInt b2 n2 P2) : b2 = b ∧ n2 = n1 ∧ P2 = P1 := by
  rcases h with ⟨h1, h2, h3, hP⟩ | ⟨h1, h2, h3, h4, hP⟩ | ⟨h1, h2, h3, h4, hP⟩ <;> rcases g with ⟨g1, g2, g3, gP⟩ | ⟨g1, g2, g3, g4, gP⟩ | ⟨g1, g2, g3, g4, gP⟩
  all_goals first
    | (exfalso; omega)
    | exact ⟨by omega, by omega, by rw [gP, hP]⟩
theorem tc_say {w : am_W} (a0 : Int32) (H : TI w) : aw none 40 61 (fun r w1 => (ab_inv ab_TT ab_sets w1 ∧ w1.length = w.length) ∧ ∃ b : Int32, r = some (.int b) ∧ MMp (fun n P b n1 P1 => syP n P a0.toInt b n1 P1) b.toInt w1) (0, am_entry 61 [.ref 0, .int a0], []) w := tcp (S := fun n P b n1 P1 => syP n P a0.toInt b n1 P1) H fun n P R => (e_say (d := 0) R a0 H.inv).deep (by omega)
theorem tm_say {w : am_W} (a0 : Int32) {b : Int} (M : MMp (fun n P b n1 P1 => syP n P a0.toInt b n1 P1) b w) : aw none 40 119 (fun r w1 => (TI w1 ∧ w1.length = w.length) ∧ ∃ z : Int32, r = some (.int z) ∧ z.toInt = b) (0, am_entry 119 [.ref 65, .int a0], []) w := tmp (S := fun n P b n1 P1 => syP n P a0.toInt b n1 P1) M (fun n P V RV R => (f_say (d := 0) RV R a0 M.1.1).deep (by omega)) (fun n P b n1 P1 b2 n2 P2 h g => U_say a0 h g) (fun n P b n1 P1 h0 h => by rcases h with h | h | h <;> omega)
theorem tc_wipe {w : am_W} (H : TI w) : aw none 40 62 (fun r w1 => (ab_inv ab_TT ab_sets w1 ∧ w1.length = w.length) ∧ ∃ b : Int32, r = some (.int b) ∧ MMp (fun n P z n1 P1 => z = n ∧ n1 = 0 ∧ P1 = P) b.toInt w1) (0, am_entry 62 [.ref 0], []) w := tcp (S := fun n P z n1 P1 => z = n ∧ n1 = 0 ∧ P1 = P) H fun n P R => (e_wipe (d := 0) R H.inv).deep (by omega)
theorem tm_wipe {w : am_W} {b : Int} (M : MMp (fun n P z n1 P1 => z = n ∧ n1 = 0 ∧ P1 = P) b w) : aw none 40 120 (fun r w1 => (TI w1 ∧ w1.length = w.length) ∧ ∃ z : Int32, r = some (.int z) ∧ z.toInt = b) (0, am_entry 120 [.ref 65], []) w := tmp (S := fun n P z n1 P1 => z = n ∧ n1 = 0 ∧ P1 = P) M (fun n P V RV R => (f_wipe (d := 0) RV R M.1.1).deep (by omega)) (fun n P b n1 P1 b2 n2 P2 h g => ⟨by rw [h.1, g.1], by rw [h.2.1, g.2.1], by rw [h.2.2, g.2.2]⟩) (fun n P b n1 P1 h0 h => by omega)
theorem U_cell {V : Nat → Int} (a0 : Int32) {b b2 : Int} (h : cellP V a0.toInt b) (g : cellP V a0.toInt b2) : b2 = b := by
  rcases h with h | h <;> rcases g with g | g <;> omega
theorem tc_cell {w : am_W} (a0 : Int32) (H : TI w) : aw none 40 65 (fun r w1 => (ab_inv ab_TT ab_sets w1 ∧ w1.length = w.length) ∧ ∃ b : Int32, r = some (.int b) ∧ MMq (fun _ _ V b => cellP V a0.toInt b) b.toInt w1) (0, am_entry 65 [.ref 0, .int a0], []) w := tcq (S := fun _ _ V b => cellP V a0.toInt b) H fun n P V R R0 g => (e_cell (d := 0) (P := P) (n := n) R a0 H.inv).deep (by omega)
theorem tm_cell {w : am_W} (a0 : Int32) {b : Int} (M : MMq (fun _ _ V b => cellP V a0.toInt b) b w) : aw none 40 125 (fun r w1 => (TI w1 ∧ w1.length = w.length) ∧ ∃ z : Int32, r = some (.int z) ∧ z.toInt = b) (0, am_entry 125 [.ref 65, .int a0], []) w := tmq (S := fun _ _ V b => cellP V a0.toInt b) M (fun n P V R R0 g => (f_cell (d := 0) (P := P) (n := n) R a0 M.1.1).deep (by omega)) (fun n P V b b2 hn h g => U_cell a0 h g)
theorem U_fault {V P : Nat → Int} {n : Int} (a0 : Int32) {b b2 : Int} (hn : 0 ≤ n) (h : fauP V n P a0.toInt b) (g : fauP V n P a0.toInt b2) : b2 = b := by
  rcases h with h | h | h <;> rcases g with g | g | g
  · omega
  · omega
  · omega
  · omega
  · exact g.2.uniq h.2 hn
  · omega
  · omega
  · omega
  · exact g.2.uniq h.2 hn
theorem tc_fault {w : am_W} (a0 : Int32) (H : TI w) : aw none 40 63 (fun r w1 => (ab_inv ab_TT ab_sets w1 ∧ w1.length = w.length) ∧ ∃ b : Int32, r = some (.int b) ∧ MMq (fun n P V b => fauP V n P a0.toInt b) b.toInt w1) (0, am_entry 63 [.ref 0, .int a0], []) w := tcq (S := fun n P V b => fauP V n P a0.toInt b) H fun n P V R R0 g => (e_fault (d := 0) R R0 a0 H.inv).deep (by omega)
theorem tm_fault {w : am_W} (a0 : Int32) {b : Int} (M : MMq (fun n P V b => fauP V n P a0.toInt b) b w) : aw none 40 123 (fun r w1 => (TI w1 ∧ w1.length = w.length) ∧ ∃ z : Int32, r = some (.int z) ∧ z.toInt = b) (0, am_entry 123 [.ref 65, .int a0], []) w := tmq (S := fun n P V b => fauP V n P a0.toInt b) M (fun n P V R R0 g => (f_fault (d := 0) R R0 a0 M.1.1).deep (by omega)) (fun n P V b b2 hn h g => U_fault a0 hn h g)
theorem U_prs {V : Nat → Int} {p k b b2 : Int} (h : prsP V p k b) (g : prsP V p k b2) : b2 = b := by
  rcases h with h | h | h <;> rcases g with g | g | g <;> omega
theorem U_told {V : Nat → Int} {n : Int} (a0 : Int32) {b b2 : Int} (h : toldP V n a0.toInt b) (g : toldP V n a0.toInt b2) : b2 = b := by
  rcases h with h | h | h | h
  · rcases g with g | g | g | g <;> omega
  · rcases g with g | g | g | g <;> omega
  · rcases g with g | g | g | g
    · omega
    · omega
    · exact U_prs h.2 g.2
    · omega
  · rcases g with g | g | g | g
    · omega
    · omega
    · omega
    · rcases h with h | h | h | h | h | h | h | h | h | h <;> rcases g with g | g | g | g | g | g | g | g | g | g <;> omega
theorem tc_told {w : am_W} (a0 : Int32) (H : TI w) : aw none 40 95 (fun r w1 => (ab_inv ab_TT ab_sets w1 ∧ w1.length = w.length) ∧ ∃ b : Int32, r = some (.int b) ∧ MMq (fun n _ V b => toldP V n a0.toInt b) b.toInt w1) (0, am_entry 95 [.ref 0, .int a0], []) w := tcq (S := fun n _ V b => toldP V n a0.toInt b) H fun n P V R R0 g => (e_told (d := 0) R R0 g.1 a0 H.inv).deep (by omega)
theorem tm_told {w : am_W} (a0 : Int32) {b : Int} (M : MMq (fun n _ V b => toldP V n a0.toInt b) b w) : aw none 40 186 (fun r w1 => (TI w1 ∧ w1.length = w.length) ∧ ∃ z : Int32, r = some (.int z) ∧ z.toInt = b) (0, am_entry 186 [.ref 65, .int a0], []) w := tmq (S := fun n _ V b => toldP V n a0.toInt b) M (fun n P V R R0 g => (f_told (d := 0) R R0 g.1 a0 M.1.1).deep (by omega)) (fun n P V b b2 hn h g => U_told a0 h g)
noncomputable def QT (w : am_W) : Option Value → am_W → Prop := fun r w1 => (TI w1 ∧ w1.length = w.length) ∧ ∃ b : Int32, r = some (.int b)
noncomputable def QTl (w : am_W) : Option Value → am_W → Prop := fun r w1 => (TI w1 ∧ w1.length = w.length) ∧ ∃ b : Int64, r = some (.long b)
theorem tc_judge {w : am_W} (a0 : Int32) (H : TI w) : aw none 40 70 (QT w) (0, am_entry 70 [.ref 0, .int a0], []) w := ((ok_i (as := [.ref 0, .int a0]) (-2147483648) 2147483647 kc122 (by decide) H.inv (And.intro vF_r ((And.intro (vF_ti) (trivial))))).deep (by omega)).mono fun r w1 q => ⟨H.w1 q.1, q.2.imp fun b h => h.1⟩
theorem tm_judge {w : am_W} (a0 : Int32) (H : TI w) : aw none 40 139 (QT w) (0, am_entry 139 [.ref 65, .int a0], []) w := ((q_judge (d := 0) a0 H.inv).deep (by omega)).mono fun r w1 q => ⟨H.w1 q.1, q.2⟩
theorem tc_leads {w : am_W} (a0 : Int32) (a1 : Int32) (H : TI w) : aw none 40 71 (QTl w) (0, am_entry 71 [.ref 0, .int a0, .int a1], []) w := ((ok_l (as := [.ref 0, .int a0, .int a1]) kc9 (by decide) H.inv (And.intro vF_r ((And.intro (vF_ti) (And.intro (vF_ti) (trivial)))))).deep (by omega)).mono fun r w1 q => ⟨H.w1 q.1, q.2⟩
theorem tm_leads {w : am_W} (a0 : Int32) (a1 : Int32) (H : TI w) : aw none 40 140 (QTl w) (0, am_entry 140 [.ref 65, .int a0, .int a1], []) w := ((ok_l (as := [.ref 65, .int a0, .int a1]) kg8 (by decide) H.inv (And.intro vF_r ((And.intro (vF_ti) (And.intro (vF_ti) (trivial)))))).deep (by omega)).mono fun r w1 q => ⟨H.w1 q.1, q.2⟩
theorem tc_strides {w : am_W} (a0 : Int32) (H : TI w) : aw none 40 72 (QT w) (0, am_entry 72 [.ref 0, .int a0], []) w := ((ok_i (as := [.ref 0, .int a0]) (-2147483648) 2147483647 kc10 (by decide) H.inv (And.intro vF_r ((And.intro (vF_ti) (trivial))))).deep (by omega)).mono fun r w1 q => ⟨H.w1 q.1, q.2.imp fun b h => h.1⟩
theorem tm_strides {w : am_W} (a0 : Int32) (H : TI w) : aw none 40 141 (QT w) (0, am_entry 141 [.ref 65, .int a0], []) w := ((ok_i (as := [.ref 65, .int a0]) (-2147483648) 2147483647 kg9 (by decide) H.inv (And.intro vF_r ((And.intro (vF_ti) (trivial))))).deep (by omega)).mono fun r w1 q => ⟨H.w1 q.1, q.2.imp fun b h => h.1⟩
theorem tc_far {w : am_W} (a0 : Int32) (a1 : Int32) (a2 : Int32) (a3 : Int32) (H : TI w) : aw none 40 73 (QT w) (0, am_entry 73 [.ref 0, .int a0, .int a1, .int a2, .int a3], []) w := ((ok_i (as := [.ref 0, .int a0, .int a1, .int a2, .int a3]) (-2147483648) 2147483647 kc20 (by decide) H.inv (And.intro vF_r ((And.intro (vF_ti) (And.intro (vF_ti) (And.intro (vF_ti) (And.intro (vF_ti) (trivial)))))))).deep (by omega)).mono fun r w1 q => ⟨H.w1 q.1, q.2.imp fun b h => h.1⟩
theorem tm_far {w : am_W} (a0 : Int32) (a1 : Int32) (a2 : Int32) (a3 : Int32) (H : TI w) : aw none 40 144 (QT w) (0, am_entry 144 [.ref 65, .int a0, .int a1, .int a2, .int a3], []) w := ((q_far (d := 0) a0 a1 a2 a3 H.inv).deep (by omega)).mono fun r w1 q => ⟨H.w1 q.1, q.2⟩
theorem tc_reached {w : am_W} (a0 : Int32) (a1 : Int32) (H : TI w) : aw none 40 74 (QTl w) (0, am_entry 74 [.ref 0, .int a0, .int a1], []) w := ((ok_l (as := [.ref 0, .int a0, .int a1]) kc21 (by decide) H.inv (And.intro vF_r ((And.intro (vF_ti) (And.intro (vF_ti) (trivial)))))).deep (by omega)).mono fun r w1 q => ⟨H.w1 q.1, q.2⟩
theorem tm_reached {w : am_W} (a0 : Int32) (a1 : Int32) (H : TI w) : aw none 40 145 (QTl w) (0, am_entry 145 [.ref 65, .int a0, .int a1], []) w := ((ok_l (as := [.ref 65, .int a0, .int a1]) kg13 (by decide) H.inv (And.intro vF_r ((And.intro (vF_ti) (And.intro (vF_ti) (trivial)))))).deep (by omega)).mono fun r w1 q => ⟨H.w1 q.1, q.2⟩
theorem tc_worn {w : am_W} (a0 : Int32) (a1 : Int32) (a2 : Int32) (H : TI w) : aw none 40 75 (QT w) (0, am_entry 75 [.ref 0, .int a0, .int a1, .int a2], []) w := ((ok_i (as := [.ref 0, .int a0, .int a1, .int a2]) (-2147483648) 2147483647 kc30 (by decide) H.inv (And.intro vF_r ((And.intro (vF_ti) (And.intro (vF_ti) (And.intro (vF_ti) (trivial))))))).deep (by omega)).mono fun r w1 q => ⟨H.w1 q.1, q.2.imp fun b h => h.1⟩
theorem tm_worn {w : am_W} (a0 : Int32) (a1 : Int32) (a2 : Int32) (H : TI w) : aw none 40 148 (QT w) (0, am_entry 148 [.ref 65, .int a0, .int a1, .int a2], []) w := ((q_worn (d := 0) a0 a1 a2 H.inv).deep (by omega)).mono fun r w1 q => ⟨H.w1 q.1, q.2⟩
theorem tc_changed {w : am_W} (a0 : Int32) (a1 : Int32) (a2 : Int32) (a3 : Int32) (a4 : Int32) (H : TI w) : aw none 40 76 (QT w) (0, am_entry 76 [.ref 0, .int a0, .int a1, .int a2, .int a3, .int a4], []) w := ((ok_i (as := [.ref 0, .int a0, .int a1, .int a2, .int a3, .int a4]) (-2147483648) 2147483647 kc32 (by decide) H.inv (And.intro vF_r ((And.intro (vF_ti) (And.intro (vF_ti) (And.intro (vF_ti) (And.intro (vF_ti) (And.intro (vF_ti) (trivial))))))))).deep (by omega)).mono fun r w1 q => ⟨H.w1 q.1, q.2.imp fun b h => h.1⟩
theorem tm_changed {w : am_W} (a0 : Int32) (a1 : Int32) (a2 : Int32) (a3 : Int32) (a4 : Int32) (H : TI w) : aw none 40 150 (QT w) (0, am_entry 150 [.ref 65, .int a0, .int a1, .int a2, .int a3, .int a4], []) w := ((q_changed (d := 0) a0 a1 a2 a3 a4 H.inv).deep (by omega)).mono fun r w1 q => ⟨H.w1 q.1, q.2⟩
theorem tc_time {w : am_W} (a0 : Int32) (a1 : Int32) (a2 : Int32) (H : TI w) : aw none 40 77 (QT w) (0, am_entry 77 [.ref 0, .int a0, .int a1, .int a2], []) w := ((ok_i (as := [.ref 0, .int a0, .int a1, .int a2]) (-2147483648) 2147483647 kc33 (by decide) H.inv (And.intro vF_r ((And.intro (vF_ti) (And.intro (vF_ti) (And.intro (vF_ti) (trivial))))))).deep (by omega)).mono fun r w1 q => ⟨H.w1 q.1, q.2.imp fun b h => h.1⟩
theorem tm_time {w : am_W} (a0 : Int32) (a1 : Int32) (a2 : Int32) (H : TI w) : aw none 40 151 (QT w) (0, am_entry 151 [.ref 65, .int a0, .int a1, .int a2], []) w := ((q_time (d := 0) a0 a1 a2 H.inv).deep (by omega)).mono fun r w1 q => ⟨H.w1 q.1, q.2⟩
theorem tc_errands {w : am_W} (a0 : Int32) (a1 : Int64) (a2 : Int32) (H : TI w) : aw none 40 78 (QT w) (0, am_entry 78 [.ref 0, .int a0, .long a1, .int a2], []) w := ((ok_i (as := [.ref 0, .int a0, .long a1, .int a2]) (-2147483648) 2147483647 kc43 (by decide) H.inv (And.intro vF_r ((And.intro (vF_ti) (And.intro (vF_tl) (And.intro (vF_ti) (trivial))))))).deep (by omega)).mono fun r w1 q => ⟨H.w1 q.1, q.2.imp fun b h => h.1⟩
theorem tm_errands {w : am_W} (a0 : Int32) (a1 : Int64) (a2 : Int32) (H : TI w) : aw none 40 155 (QT w) (0, am_entry 155 [.ref 65, .int a0, .long a1, .int a2], []) w := ((q_errands (d := 0) a0 a1 a2 H.inv).deep (by omega)).mono fun r w1 q => ⟨H.w1 q.1, q.2⟩
theorem tc_meet {w : am_W} (a0 : Int32) (H : TI w) : aw none 40 81 (QT w) (0, am_entry 81 [.ref 0, .int a0], []) w := ((ok_i (as := [.ref 0, .int a0]) (-2147483648) 2147483647 kc48 (by decide) H.inv (And.intro vF_r ((And.intro (vF_ti) (trivial))))).deep (by omega)).mono fun r w1 q => ⟨H.w1 q.1, q.2.imp fun b h => h.1⟩
theorem tm_meet {w : am_W} (a0 : Int32) (H : TI w) : aw none 40 159 (QT w) (0, am_entry 159 [.ref 65, .int a0], []) w := ((ok_i (as := [.ref 65, .int a0]) (-2147483648) 2147483647 kg15 (by decide) H.inv (And.intro vF_r ((And.intro (vF_ti) (trivial))))).deep (by omega)).mono fun r w1 q => ⟨H.w1 q.1, q.2.imp fun b h => h.1⟩
theorem tc_made {w : am_W} (a0 : Int64) (a1 : Int32) (a2 : Int32) (H : TI w) : aw none 40 82 (QT w) (0, am_entry 82 [.ref 0, .long a0, .int a1, .int a2], []) w := ((ok_i (as := [.ref 0, .long a0, .int a1, .int a2]) (-2147483648) 2147483647 kc50 (by decide) H.inv (And.intro vF_r ((And.intro (vF_tl) (And.intro (vF_ti) (And.intro (vF_ti) (trivial))))))).deep (by omega)).mono fun r w1 q => ⟨H.w1 q.1, q.2.imp fun b h => h.1⟩
theorem tm_made {w : am_W} (a0 : Int64) (a1 : Int32) (a2 : Int32) (H : TI w) : aw none 40 160 (QT w) (0, am_entry 160 [.ref 65, .long a0, .int a1, .int a2], []) w := ((ok_i (as := [.ref 65, .long a0, .int a1, .int a2]) (-2147483648) 2147483647 kg20 (by decide) H.inv (And.intro vF_r ((And.intro (vF_tl) (And.intro (vF_ti) (And.intro (vF_ti) (trivial))))))).deep (by omega)).mono fun r w1 q => ⟨H.w1 q.1, q.2.imp fun b h => h.1⟩
theorem tc_where {w : am_W} (H : TI w) : aw none 40 85 (QTl w) (0, am_entry 85 [.ref 0], []) w := ((ok_l (as := [.ref 0]) kc52 (by decide) H.inv (And.intro vF_r ((trivial)))).deep (by omega)).mono fun r w1 q => ⟨H.w1 q.1, q.2⟩
theorem tm_where {w : am_W} (H : TI w) : aw none 40 163 (QTl w) (0, am_entry 163 [.ref 65], []) w := ((ok_l (as := [.ref 65]) kg21 (by decide) H.inv (And.intro vF_r ((trivial)))).deep (by omega)).mono fun r w1 q => ⟨H.w1 q.1, q.2⟩
theorem tc_ask {w : am_W} (a0 : Int32) (H : TI w) : aw none 40 86 (QT w) (0, am_entry 86 [.ref 0, .int a0], []) w := ((ok_i (as := [.ref 0, .int a0]) (-2147483648) 2147483647 kc57 (by decide) H.inv (And.intro vF_r ((And.intro (vF_ti) (trivial))))).deep (by omega)).mono fun r w1 q => ⟨H.w1 q.1, q.2.imp fun b h => h.1⟩
theorem tm_ask {w : am_W} (a0 : Int32) (H : TI w) : aw none 40 165 (QT w) (0, am_entry 165 [.ref 65, .int a0], []) w := ((ok_i (as := [.ref 65, .int a0]) (-2147483648) 2147483647 kg24 (by decide) H.inv (And.intro vF_r ((And.intro (vF_ti) (trivial))))).deep (by omega)).mono fun r w1 q => ⟨H.w1 q.1, q.2.imp fun b h => h.1⟩
theorem tc_after {w : am_W} (a0 : Int32) (a1 : Int32) (a2 : Int32) (H : TI w) : aw none 40 87 (QTl w) (0, am_entry 87 [.ref 0, .int a0, .int a1, .int a2], []) w := ((ok_l (as := [.ref 0, .int a0, .int a1, .int a2]) kc59 (by decide) H.inv (And.intro vF_r ((And.intro (vF_ti) (And.intro (vF_ti) (And.intro (vF_ti) (trivial))))))).deep (by omega)).mono fun r w1 q => ⟨H.w1 q.1, q.2⟩
theorem tm_after {w : am_W} (a0 : Int32) (a1 : Int32) (a2 : Int32) (H : TI w) : aw none 40 167 (QTl w) (0, am_entry 167 [.ref 65, .int a0, .int a1, .int a2], []) w := ((ok_l (as := [.ref 65, .int a0, .int a1, .int a2]) kg27 (by decide) H.inv (And.intro vF_r ((And.intro (vF_ti) (And.intro (vF_ti) (And.intro (vF_ti) (trivial))))))).deep (by omega)).mono fun r w1 q => ⟨H.w1 q.1, q.2⟩
theorem tc_ways {w : am_W} (a0 : Int32) (a1 : Int32) (a2 : Int32) (a3 : Int32) (H : TI w) : aw none 40 88 (QTl w) (0, am_entry 88 [.ref 0, .int a0, .int a1, .int a2, .int a3], []) w := ((ok_l (as := [.ref 0, .int a0, .int a1, .int a2, .int a3]) kc65 (by decide) H.inv (And.intro vF_r ((And.intro (vF_ti) (And.intro (vF_ti) (And.intro (vF_ti) (And.intro (vF_ti) (trivial)))))))).deep (by omega)).mono fun r w1 q => ⟨H.w1 q.1, q.2⟩
theorem tm_ways {w : am_W} (a0 : Int32) (a1 : Int32) (a2 : Int32) (a3 : Int32) (H : TI w) : aw none 40 168 (QTl w) (0, am_entry 168 [.ref 65, .int a0, .int a1, .int a2, .int a3], []) w := ((ok_l (as := [.ref 65, .int a0, .int a1, .int a2, .int a3]) kg29 (by decide) H.inv (And.intro vF_r ((And.intro (vF_ti) (And.intro (vF_ti) (And.intro (vF_ti) (And.intro (vF_ti) (trivial)))))))).deep (by omega)).mono fun r w1 q => ⟨H.w1 q.1, q.2⟩
theorem tc_chance {w : am_W} (a0 : Int32) (a1 : Int32) (a2 : Int32) (a3 : Int32) (a4 : Int32) (H : TI w) : aw none 40 89 (QTl w) (0, am_entry 89 [.ref 0, .int a0, .int a1, .int a2, .int a3, .int a4], []) w := ((ok_l (as := [.ref 0, .int a0, .int a1, .int a2, .int a3, .int a4]) kc69 (by decide) H.inv (And.intro vF_r ((And.intro (vF_ti) (And.intro (vF_ti) (And.intro (vF_ti) (And.intro (vF_ti) (And.intro (vF_ti) (trivial))))))))).deep (by omega)).mono fun r w1 q => ⟨H.w1 q.1, q.2⟩
theorem tm_chance {w : am_W} (a0 : Int32) (a1 : Int32) (a2 : Int32) (a3 : Int32) (a4 : Int32) (H : TI w) : aw none 40 171 (QTl w) (0, am_entry 171 [.ref 65, .int a0, .int a1, .int a2, .int a3, .int a4], []) w := ((q_chance (d := 0) a0 a1 a2 a3 a4 H.inv).deep (by omega)).mono fun r w1 q => ⟨H.w1 q.1, q.2⟩
theorem tc_guard {w : am_W} (a0 : Int32) (a1 : Int32) (a2 : Int32) (a3 : Int32) (a4 : Int32) (H : TI w) : aw none 40 90 (QT w) (0, am_entry 90 [.ref 0, .int a0, .int a1, .int a2, .int a3, .int a4], []) w := ((ok_i (as := [.ref 0, .int a0, .int a1, .int a2, .int a3, .int a4]) (-2147483648) 2147483647 kc75 (by decide) H.inv (And.intro vF_r ((And.intro (vF_ti) (And.intro (vF_ti) (And.intro (vF_ti) (And.intro (vF_ti) (And.intro (vF_ti) (trivial))))))))).deep (by omega)).mono fun r w1 q => ⟨H.w1 q.1, q.2.imp fun b h => h.1⟩
theorem tm_guard {w : am_W} (a0 : Int32) (a1 : Int32) (a2 : Int32) (a3 : Int32) (a4 : Int32) (H : TI w) : aw none 40 176 (QT w) (0, am_entry 176 [.ref 65, .int a0, .int a1, .int a2, .int a3, .int a4], []) w := ((q_guard (d := 0) a0 a1 a2 a3 a4 H.inv).deep (by omega)).mono fun r w1 q => ⟨H.w1 q.1, q.2⟩
theorem tc_posts {w : am_W} (a0 : Int32) (a1 : Int32) (H : TI w) : aw none 40 91 (QT w) (0, am_entry 91 [.ref 0, .int a0, .int a1], []) w := ((ok_i (as := [.ref 0, .int a0, .int a1]) (-2147483648) 2147483647 kc96 (by decide) H.inv (And.intro vF_r ((And.intro (vF_ti) (And.intro (vF_ti) (trivial)))))).deep (by omega)).mono fun r w1 q => ⟨H.w1 q.1, q.2.imp fun b h => h.1⟩
theorem tm_posts {w : am_W} (a0 : Int32) (a1 : Int32) (H : TI w) : aw none 40 177 (QT w) (0, am_entry 177 [.ref 65, .int a0, .int a1], []) w := ((ok_i (as := [.ref 65, .int a0, .int a1]) (-2147483648) 2147483647 kg30 (by decide) H.inv (And.intro vF_r ((And.intro (vF_ti) (And.intro (vF_ti) (trivial)))))).deep (by omega)).mono fun r w1 q => ⟨H.w1 q.1, q.2.imp fun b h => h.1⟩
theorem tc_year {w : am_W} (a0 : Int32) (a1 : Int32) (a2 : Int32) (a3 : Int32) (H : TI w) : aw none 40 92 (QT w) (0, am_entry 92 [.ref 0, .int a0, .int a1, .int a2, .int a3], []) w := ((ok_i (as := [.ref 0, .int a0, .int a1, .int a2, .int a3]) (-2147483648) 2147483647 kc101 (by decide) H.inv (And.intro vF_r ((And.intro (vF_ti) (And.intro (vF_ti) (And.intro (vF_ti) (And.intro (vF_ti) (trivial)))))))).deep (by omega)).mono fun r w1 q => ⟨H.w1 q.1, q.2.imp fun b h => h.1⟩
theorem tm_year {w : am_W} (a0 : Int32) (a1 : Int32) (a2 : Int32) (a3 : Int32) (H : TI w) : aw none 40 179 (QT w) (0, am_entry 179 [.ref 65, .int a0, .int a1, .int a2, .int a3], []) w := ((ok_i (as := [.ref 65, .int a0, .int a1, .int a2, .int a3]) (-2147483648) 2147483647 kg34 (by decide) H.inv (And.intro vF_r ((And.intro (vF_ti) (And.intro (vF_ti) (And.intro (vF_ti) (And.intro (vF_ti) (trivial)))))))).deep (by omega)).mono fun r w1 q => ⟨H.w1 q.1, q.2.imp fun b h => h.1⟩
