/-! ===== the law ===== -/
set_option maxRecDepth 100000 in
theorem lk_0 {X : List Int32} {Q : Option Value → am_W → Prop} {w : am_W} {i : Int32} (h0 : 0 ≤ i.toInt) (h6 : i.toInt + 6 ≤ X.length) (hX : X.length ≤ 384) (H : TI w) (K : ∀ w1, TI w1 → aw (some X) 60 193 Q (1476, [some (.ref (am_B + 1)), some (.ref 0), some (.ref 65), some (.int i)], []) w1) : aw (some X) 60 193 Q (192, [some (.ref (am_B + 1)), some (.ref 0), some (.ref 65), some (.int i)], []) w := by
  refine aw_step (f1 := (193, [some (.ref (am_B + 1)), some (.ref 0), some (.ref 65), some (.int i)], [(.ref 0)])) (w1 := w) (lt_f rfl (Nat.le_of_ble_eq_true rfl)) rfl ?_
  refine aw_step (f1 := (194, [some (.ref (am_B + 1)), some (.ref 0), some (.ref 65), some (.int i)], [(.ref (am_B + 1)), (.ref 0)])) (w1 := w) (lt_f rfl (Nat.le_of_ble_eq_true rfl)) rfl ?_
  refine aw_step (f1 := (195, [some (.ref (am_B + 1)), some (.ref 0), some (.ref 65), some (.int i)], [(.int i), (.ref (am_B + 1)), (.ref 0)])) (w1 := w) (lt_f rfl (Nat.le_of_ble_eq_true rfl)) rfl ?_
  refine x_i (pc1 := 196) (ls1 := [some (.ref (am_B + 1)), some (.ref 0), some (.ref 65), some (.int i)]) (st1 := [(.int i), (.ref (am_B + 1)), (.ref 0)]) (lt_f rfl (Nat.le_of_ble_eq_true rfl)) rfl fun x1 e2 => ?_
  have e2t : x1.toInt = 1 := by rw [e2]; rfl
  refine x_i (pc1 := 197) (ls1 := [some (.ref (am_B + 1)), some (.ref 0), some (.ref 65), some (.int i)]) (st1 := [(.ref (am_B + 1)), (.ref 0)]) (lt_f rfl (Nat.le_of_ble_eq_true rfl)) rfl fun x3 e4 => ?_
  have e4 : x3 = i + x1 := e4
  have e4t : x3.toInt = i.toInt + x1.toInt := by rw [e4]; exact n_add (by omega) (by omega)
  refine x_ia 198 (lt_f rfl (Nat.le_of_ble_eq_true rfl)) rfl (by omega) (by omega) ?_
  rw [show x3.toInt = i.toInt + 1 by omega]
  show aw (some X) _ 193 _ (198, [some (.ref (am_B + 1)), some (.ref 0), some (.ref 65), some (.int i)], [(.int (sx X (i.toInt + 1))), (.ref 0)]) w
  refine aw_step (f1 := (199, [some (.ref (am_B + 1)), some (.ref 0), some (.ref 65), some (.int i)], [(.ref (am_B + 1)), (.int (sx X (i.toInt + 1))), (.ref 0)])) (w1 := w) (lt_f rfl (Nat.le_of_ble_eq_true rfl)) rfl ?_
  refine aw_step (f1 := (200, [some (.ref (am_B + 1)), some (.ref 0), some (.ref 65), some (.int i)], [(.int i), (.ref (am_B + 1)), (.int (sx X (i.toInt + 1))), (.ref 0)])) (w1 := w) (lt_f rfl (Nat.le_of_ble_eq_true rfl)) rfl ?_
  refine x_i (pc1 := 201) (ls1 := [some (.ref (am_B + 1)), some (.ref 0), some (.ref 65), some (.int i)]) (st1 := [(.int i), (.ref (am_B + 1)), (.int (sx X (i.toInt + 1))), (.ref 0)]) (lt_f rfl (Nat.le_of_ble_eq_true rfl)) rfl fun x5 e6 => ?_
  have e6t : x5.toInt = 2 := by rw [e6]; rfl
  refine x_i (pc1 := 202) (ls1 := [some (.ref (am_B + 1)), some (.ref 0), some (.ref 65), some (.int i)]) (st1 := [(.ref (am_B + 1)), (.int (sx X (i.toInt + 1))), (.ref 0)]) (lt_f rfl (Nat.le_of_ble_eq_true rfl)) rfl fun x7 e8 => ?_
  have e8 : x7 = i + x5 := e8
  have e8t : x7.toInt = i.toInt + x5.toInt := by rw [e8]; exact n_add (by omega) (by omega)
  refine x_ia 203 (lt_f rfl (Nat.le_of_ble_eq_true rfl)) rfl (by omega) (by omega) ?_
  rw [show x7.toInt = i.toInt + 2 by omega]
  show aw (some X) _ 193 _ (203, [some (.ref (am_B + 1)), some (.ref 0), some (.ref 65), some (.int i)], [(.int (sx X (i.toInt + 2))), (.int (sx X (i.toInt + 1))), (.ref 0)]) w
  refine x_cv (z := 60) (p := 0) (as := [(.int (sx X (i.toInt + 1))), (.int (sx X (i.toInt + 2)))]) (st1 := []) (H.inv) 206 (lt_f rfl (Nat.le_of_ble_eq_true rfl)) rfl rfl rfl rfl rfl rfl rfl (Nat.le_of_ble_eq_true rfl) (Nat.le_of_ble_eq_true rfl) ((tc_land (sx X (i.toInt + 1)) (sx X (i.toInt + 2)) H).deep (by omega)) ?_
  rintro _ w10 ⟨⟨Hw10, w10l⟩, x9, rfl, w10M⟩
  refine ⟨w10l, ?_⟩
  show aw (some X) _ 193 _ (206, [some (.ref (am_B + 1)), some (.ref 0), some (.ref 65), some (.int i)], [(.int x9)]) w10
  refine aw_step (f1 := (207, [some (.ref (am_B + 1)), some (.ref 0), some (.ref 65), some (.int i)], [])) (w1 := w10) (lt_f rfl (Nat.le_of_ble_eq_true rfl)) rfl ?_
  refine aw_step (f1 := (208, [some (.ref (am_B + 1)), some (.ref 0), some (.ref 65), some (.int i)], [(.ref 65)])) (w1 := w10) (lt_f rfl (Nat.le_of_ble_eq_true rfl)) rfl ?_
  refine aw_step (f1 := (209, [some (.ref (am_B + 1)), some (.ref 0), some (.ref 65), some (.int i)], [(.ref (am_B + 1)), (.ref 65)])) (w1 := w10) (lt_f rfl (Nat.le_of_ble_eq_true rfl)) rfl ?_
  refine aw_step (f1 := (210, [some (.ref (am_B + 1)), some (.ref 0), some (.ref 65), some (.int i)], [(.int i), (.ref (am_B + 1)), (.ref 65)])) (w1 := w10) (lt_f rfl (Nat.le_of_ble_eq_true rfl)) rfl ?_
  refine x_i (pc1 := 211) (ls1 := [some (.ref (am_B + 1)), some (.ref 0), some (.ref 65), some (.int i)]) (st1 := [(.int i), (.ref (am_B + 1)), (.ref 65)]) (lt_f rfl (Nat.le_of_ble_eq_true rfl)) rfl fun x11 e12 => ?_
  have e12t : x11.toInt = 1 := by rw [e12]; rfl
  refine x_i (pc1 := 212) (ls1 := [some (.ref (am_B + 1)), some (.ref 0), some (.ref 65), some (.int i)]) (st1 := [(.ref (am_B + 1)), (.ref 65)]) (lt_f rfl (Nat.le_of_ble_eq_true rfl)) rfl fun x13 e14 => ?_
  have e14 : x13 = i + x11 := e14
  have e14t : x13.toInt = i.toInt + x11.toInt := by rw [e14]; exact n_add (by omega) (by omega)
  refine x_ia 213 (lt_f rfl (Nat.le_of_ble_eq_true rfl)) rfl (by omega) (by omega) ?_
  rw [show x13.toInt = i.toInt + 1 by omega]
  show aw (some X) _ 193 _ (213, [some (.ref (am_B + 1)), some (.ref 0), some (.ref 65), some (.int i)], [(.int (sx X (i.toInt + 1))), (.ref 65)]) w10
  refine aw_step (f1 := (214, [some (.ref (am_B + 1)), some (.ref 0), some (.ref 65), some (.int i)], [(.ref (am_B + 1)), (.int (sx X (i.toInt + 1))), (.ref 65)])) (w1 := w10) (lt_f rfl (Nat.le_of_ble_eq_true rfl)) rfl ?_
  refine aw_step (f1 := (215, [some (.ref (am_B + 1)), some (.ref 0), some (.ref 65), some (.int i)], [(.int i), (.ref (am_B + 1)), (.int (sx X (i.toInt + 1))), (.ref 65)])) (w1 := w10) (lt_f rfl (Nat.le_of_ble_eq_true rfl)) rfl ?_
  refine x_i (pc1 := 216) (ls1 := [some (.ref (am_B + 1)), some (.ref 0), some (.ref 65), some (.int i)]) (st1 := [(.int i), (.ref (am_B + 1)), (.int (sx X (i.toInt + 1))), (.ref 65)]) (lt_f rfl (Nat.le_of_ble_eq_true rfl)) rfl fun x15 e16 => ?_
  have e16t : x15.toInt = 2 := by rw [e16]; rfl
  refine x_i (pc1 := 217) (ls1 := [some (.ref (am_B + 1)), some (.ref 0), some (.ref 65), some (.int i)]) (st1 := [(.ref (am_B + 1)), (.int (sx X (i.toInt + 1))), (.ref 65)]) (lt_f rfl (Nat.le_of_ble_eq_true rfl)) rfl fun x17 e18 => ?_
  have e18 : x17 = i + x15 := e18
  have e18t : x17.toInt = i.toInt + x15.toInt := by rw [e18]; exact n_add (by omega) (by omega)
  refine x_ia 218 (lt_f rfl (Nat.le_of_ble_eq_true rfl)) rfl (by omega) (by omega) ?_
  rw [show x17.toInt = i.toInt + 2 by omega]
  show aw (some X) _ 193 _ (218, [some (.ref (am_B + 1)), some (.ref 0), some (.ref 65), some (.int i)], [(.int (sx X (i.toInt + 2))), (.int (sx X (i.toInt + 1))), (.ref 65)]) w10
  refine x_cv (z := 118) (p := 65) (as := [(.int (sx X (i.toInt + 1))), (.int (sx X (i.toInt + 2)))]) (st1 := []) (Hw10) 221 (lt_f rfl (Nat.le_of_ble_eq_true rfl)) rfl rfl rfl rfl rfl rfl rfl (Nat.le_of_ble_eq_true rfl) (Nat.le_of_ble_eq_true rfl) ((tm_land (sx X (i.toInt + 1)) (sx X (i.toInt + 2)) (b := x9.toInt) (w10M)).deep (by omega)) ?_
  rintro _ w20 ⟨⟨Hw20, w20l⟩, x19, rfl, x19t⟩
  refine ⟨w20l, ?_⟩
  show aw (some X) _ 193 _ (221, [some (.ref (am_B + 1)), some (.ref 0), some (.ref 65), some (.int i)], [(.int x19)]) w20
  refine aw_step (f1 := (222, [some (.ref (am_B + 1)), some (.ref 0), some (.ref 65), some (.int i)], [])) (w1 := w20) (lt_f rfl (Nat.le_of_ble_eq_true rfl)) rfl ?_
  refine aw_step (f1 := (1476, [some (.ref (am_B + 1)), some (.ref 0), some (.ref 65), some (.int i)], [])) (w1 := w20) (lt_f rfl (Nat.le_of_ble_eq_true rfl)) rfl ?_
  exact K w20 Hw20
set_option maxRecDepth 100000 in
theorem lk_1 {X : List Int32} {Q : Option Value → am_W → Prop} {w : am_W} {i : Int32} (h0 : 0 ≤ i.toInt) (h6 : i.toInt + 6 ≤ X.length) (hX : X.length ≤ 384) (H : TI w) (K : ∀ w1, TI w1 → aw (some X) 60 193 Q (1476, [some (.ref (am_B + 1)), some (.ref 0), some (.ref 65), some (.int i)], []) w1) : aw (some X) 60 193 Q (225, [some (.ref (am_B + 1)), some (.ref 0), some (.ref 65), some (.int i)], []) w := by
  refine aw_step (f1 := (226, [some (.ref (am_B + 1)), some (.ref 0), some (.ref 65), some (.int i)], [(.ref 0)])) (w1 := w) (lt_f rfl (Nat.le_of_ble_eq_true rfl)) rfl ?_
  refine aw_step (f1 := (227, [some (.ref (am_B + 1)), some (.ref 0), some (.ref 65), some (.int i)], [(.ref (am_B + 1)), (.ref 0)])) (w1 := w) (lt_f rfl (Nat.le_of_ble_eq_true rfl)) rfl ?_
  refine aw_step (f1 := (228, [some (.ref (am_B + 1)), some (.ref 0), some (.ref 65), some (.int i)], [(.int i), (.ref (am_B + 1)), (.ref 0)])) (w1 := w) (lt_f rfl (Nat.le_of_ble_eq_true rfl)) rfl ?_
  refine x_i (pc1 := 229) (ls1 := [some (.ref (am_B + 1)), some (.ref 0), some (.ref 65), some (.int i)]) (st1 := [(.int i), (.ref (am_B + 1)), (.ref 0)]) (lt_f rfl (Nat.le_of_ble_eq_true rfl)) rfl fun x1 e2 => ?_
  have e2t : x1.toInt = 1 := by rw [e2]; rfl
  refine x_i (pc1 := 230) (ls1 := [some (.ref (am_B + 1)), some (.ref 0), some (.ref 65), some (.int i)]) (st1 := [(.ref (am_B + 1)), (.ref 0)]) (lt_f rfl (Nat.le_of_ble_eq_true rfl)) rfl fun x3 e4 => ?_
  have e4 : x3 = i + x1 := e4
  have e4t : x3.toInt = i.toInt + x1.toInt := by rw [e4]; exact n_add (by omega) (by omega)
  refine x_ia 231 (lt_f rfl (Nat.le_of_ble_eq_true rfl)) rfl (by omega) (by omega) ?_
  rw [show x3.toInt = i.toInt + 1 by omega]
  show aw (some X) _ 193 _ (231, [some (.ref (am_B + 1)), some (.ref 0), some (.ref 65), some (.int i)], [(.int (sx X (i.toInt + 1))), (.ref 0)]) w
  refine x_cv (z := 61) (p := 0) (as := [(.int (sx X (i.toInt + 1)))]) (st1 := []) (H.inv) 234 (lt_f rfl (Nat.le_of_ble_eq_true rfl)) rfl rfl rfl rfl rfl rfl rfl (Nat.le_of_ble_eq_true rfl) (Nat.le_of_ble_eq_true rfl) ((tc_say (sx X (i.toInt + 1)) H).deep (by omega)) ?_
  rintro _ w6 ⟨⟨Hw6, w6l⟩, x5, rfl, w6M⟩
  refine ⟨w6l, ?_⟩
  show aw (some X) _ 193 _ (234, [some (.ref (am_B + 1)), some (.ref 0), some (.ref 65), some (.int i)], [(.int x5)]) w6
  refine aw_step (f1 := (235, [some (.ref (am_B + 1)), some (.ref 0), some (.ref 65), some (.int i)], [])) (w1 := w6) (lt_f rfl (Nat.le_of_ble_eq_true rfl)) rfl ?_
  refine aw_step (f1 := (236, [some (.ref (am_B + 1)), some (.ref 0), some (.ref 65), some (.int i)], [(.ref 65)])) (w1 := w6) (lt_f rfl (Nat.le_of_ble_eq_true rfl)) rfl ?_
  refine aw_step (f1 := (237, [some (.ref (am_B + 1)), some (.ref 0), some (.ref 65), some (.int i)], [(.ref (am_B + 1)), (.ref 65)])) (w1 := w6) (lt_f rfl (Nat.le_of_ble_eq_true rfl)) rfl ?_
  refine aw_step (f1 := (238, [some (.ref (am_B + 1)), some (.ref 0), some (.ref 65), some (.int i)], [(.int i), (.ref (am_B + 1)), (.ref 65)])) (w1 := w6) (lt_f rfl (Nat.le_of_ble_eq_true rfl)) rfl ?_
  refine x_i (pc1 := 239) (ls1 := [some (.ref (am_B + 1)), some (.ref 0), some (.ref 65), some (.int i)]) (st1 := [(.int i), (.ref (am_B + 1)), (.ref 65)]) (lt_f rfl (Nat.le_of_ble_eq_true rfl)) rfl fun x7 e8 => ?_
  have e8t : x7.toInt = 1 := by rw [e8]; rfl
  refine x_i (pc1 := 240) (ls1 := [some (.ref (am_B + 1)), some (.ref 0), some (.ref 65), some (.int i)]) (st1 := [(.ref (am_B + 1)), (.ref 65)]) (lt_f rfl (Nat.le_of_ble_eq_true rfl)) rfl fun x9 e10 => ?_
  have e10 : x9 = i + x7 := e10
  have e10t : x9.toInt = i.toInt + x7.toInt := by rw [e10]; exact n_add (by omega) (by omega)
  refine x_ia 241 (lt_f rfl (Nat.le_of_ble_eq_true rfl)) rfl (by omega) (by omega) ?_
  rw [show x9.toInt = i.toInt + 1 by omega]
  show aw (some X) _ 193 _ (241, [some (.ref (am_B + 1)), some (.ref 0), some (.ref 65), some (.int i)], [(.int (sx X (i.toInt + 1))), (.ref 65)]) w6
  refine x_cv (z := 119) (p := 65) (as := [(.int (sx X (i.toInt + 1)))]) (st1 := []) (Hw6) 244 (lt_f rfl (Nat.le_of_ble_eq_true rfl)) rfl rfl rfl rfl rfl rfl rfl (Nat.le_of_ble_eq_true rfl) (Nat.le_of_ble_eq_true rfl) ((tm_say (sx X (i.toInt + 1)) (b := x5.toInt) (w6M)).deep (by omega)) ?_
  rintro _ w12 ⟨⟨Hw12, w12l⟩, x11, rfl, x11t⟩
  refine ⟨w12l, ?_⟩
  show aw (some X) _ 193 _ (244, [some (.ref (am_B + 1)), some (.ref 0), some (.ref 65), some (.int i)], [(.int x11)]) w12
  refine aw_step (f1 := (245, [some (.ref (am_B + 1)), some (.ref 0), some (.ref 65), some (.int i)], [])) (w1 := w12) (lt_f rfl (Nat.le_of_ble_eq_true rfl)) rfl ?_
  refine aw_step (f1 := (1476, [some (.ref (am_B + 1)), some (.ref 0), some (.ref 65), some (.int i)], [])) (w1 := w12) (lt_f rfl (Nat.le_of_ble_eq_true rfl)) rfl ?_
  exact K w12 Hw12
set_option maxRecDepth 100000 in
theorem lk_2 {X : List Int32} {Q : Option Value → am_W → Prop} {w : am_W} {i : Int32} (h0 : 0 ≤ i.toInt) (h6 : i.toInt + 6 ≤ X.length) (hX : X.length ≤ 384) (H : TI w) (K : ∀ w1, TI w1 → aw (some X) 60 193 Q (1476, [some (.ref (am_B + 1)), some (.ref 0), some (.ref 65), some (.int i)], []) w1) : aw (some X) 60 193 Q (248, [some (.ref (am_B + 1)), some (.ref 0), some (.ref 65), some (.int i)], []) w := by
  refine aw_step (f1 := (249, [some (.ref (am_B + 1)), some (.ref 0), some (.ref 65), some (.int i)], [(.ref 0)])) (w1 := w) (lt_f rfl (Nat.le_of_ble_eq_true rfl)) rfl ?_
  refine x_cv (z := 62) (p := 0) (as := []) (st1 := []) (H.inv) 252 (lt_f rfl (Nat.le_of_ble_eq_true rfl)) rfl rfl rfl rfl rfl rfl rfl (Nat.le_of_ble_eq_true rfl) (Nat.le_of_ble_eq_true rfl) ((tc_wipe  H).deep (by omega)) ?_
  rintro _ w2 ⟨⟨Hw2, w2l⟩, x1, rfl, w2M⟩
  refine ⟨w2l, ?_⟩
  show aw (some X) _ 193 _ (252, [some (.ref (am_B + 1)), some (.ref 0), some (.ref 65), some (.int i)], [(.int x1)]) w2
  refine aw_step (f1 := (253, [some (.ref (am_B + 1)), some (.ref 0), some (.ref 65), some (.int i)], [])) (w1 := w2) (lt_f rfl (Nat.le_of_ble_eq_true rfl)) rfl ?_
  refine aw_step (f1 := (254, [some (.ref (am_B + 1)), some (.ref 0), some (.ref 65), some (.int i)], [(.ref 65)])) (w1 := w2) (lt_f rfl (Nat.le_of_ble_eq_true rfl)) rfl ?_
  refine x_cv (z := 120) (p := 65) (as := []) (st1 := []) (Hw2) 257 (lt_f rfl (Nat.le_of_ble_eq_true rfl)) rfl rfl rfl rfl rfl rfl rfl (Nat.le_of_ble_eq_true rfl) (Nat.le_of_ble_eq_true rfl) ((tm_wipe  (b := x1.toInt) (w2M)).deep (by omega)) ?_
  rintro _ w4 ⟨⟨Hw4, w4l⟩, x3, rfl, x3t⟩
  refine ⟨w4l, ?_⟩
  show aw (some X) _ 193 _ (257, [some (.ref (am_B + 1)), some (.ref 0), some (.ref 65), some (.int i)], [(.int x3)]) w4
  refine aw_step (f1 := (258, [some (.ref (am_B + 1)), some (.ref 0), some (.ref 65), some (.int i)], [])) (w1 := w4) (lt_f rfl (Nat.le_of_ble_eq_true rfl)) rfl ?_
  refine aw_step (f1 := (1476, [some (.ref (am_B + 1)), some (.ref 0), some (.ref 65), some (.int i)], [])) (w1 := w4) (lt_f rfl (Nat.le_of_ble_eq_true rfl)) rfl ?_
  exact K w4 Hw4
set_option maxRecDepth 100000 in
theorem lk_3 {X : List Int32} {Q : Option Value → am_W → Prop} {w : am_W} {i : Int32} (h0 : 0 ≤ i.toInt) (h6 : i.toInt + 6 ≤ X.length) (hX : X.length ≤ 384) (H : TI w) (K : ∀ w1, TI w1 → aw (some X) 60 193 Q (1476, [some (.ref (am_B + 1)), some (.ref 0), some (.ref 65), some (.int i)], []) w1) : aw (some X) 60 193 Q (261, [some (.ref (am_B + 1)), some (.ref 0), some (.ref 65), some (.int i)], []) w := by
  refine aw_step (f1 := (262, [some (.ref (am_B + 1)), some (.ref 0), some (.ref 65), some (.int i)], [(.ref 0)])) (w1 := w) (lt_f rfl (Nat.le_of_ble_eq_true rfl)) rfl ?_
  refine aw_step (f1 := (263, [some (.ref (am_B + 1)), some (.ref 0), some (.ref 65), some (.int i)], [(.ref (am_B + 1)), (.ref 0)])) (w1 := w) (lt_f rfl (Nat.le_of_ble_eq_true rfl)) rfl ?_
  refine aw_step (f1 := (264, [some (.ref (am_B + 1)), some (.ref 0), some (.ref 65), some (.int i)], [(.int i), (.ref (am_B + 1)), (.ref 0)])) (w1 := w) (lt_f rfl (Nat.le_of_ble_eq_true rfl)) rfl ?_
  refine x_i (pc1 := 265) (ls1 := [some (.ref (am_B + 1)), some (.ref 0), some (.ref 65), some (.int i)]) (st1 := [(.int i), (.ref (am_B + 1)), (.ref 0)]) (lt_f rfl (Nat.le_of_ble_eq_true rfl)) rfl fun x1 e2 => ?_
  have e2t : x1.toInt = 1 := by rw [e2]; rfl
  refine x_i (pc1 := 266) (ls1 := [some (.ref (am_B + 1)), some (.ref 0), some (.ref 65), some (.int i)]) (st1 := [(.ref (am_B + 1)), (.ref 0)]) (lt_f rfl (Nat.le_of_ble_eq_true rfl)) rfl fun x3 e4 => ?_
  have e4 : x3 = i + x1 := e4
  have e4t : x3.toInt = i.toInt + x1.toInt := by rw [e4]; exact n_add (by omega) (by omega)
  refine x_ia 267 (lt_f rfl (Nat.le_of_ble_eq_true rfl)) rfl (by omega) (by omega) ?_
  rw [show x3.toInt = i.toInt + 1 by omega]
  show aw (some X) _ 193 _ (267, [some (.ref (am_B + 1)), some (.ref 0), some (.ref 65), some (.int i)], [(.int (sx X (i.toInt + 1))), (.ref 0)]) w
  refine x_cv (z := 63) (p := 0) (as := [(.int (sx X (i.toInt + 1)))]) (st1 := []) (H.inv) 270 (lt_f rfl (Nat.le_of_ble_eq_true rfl)) rfl rfl rfl rfl rfl rfl rfl (Nat.le_of_ble_eq_true rfl) (Nat.le_of_ble_eq_true rfl) ((tc_fault (sx X (i.toInt + 1)) H).deep (by omega)) ?_
  rintro _ w6 ⟨⟨Hw6, w6l⟩, x5, rfl, w6M⟩
  refine ⟨w6l, ?_⟩
  show aw (some X) _ 193 _ (270, [some (.ref (am_B + 1)), some (.ref 0), some (.ref 65), some (.int i)], [(.int x5)]) w6
  refine aw_step (f1 := (271, [some (.ref (am_B + 1)), some (.ref 0), some (.ref 65), some (.int i)], [])) (w1 := w6) (lt_f rfl (Nat.le_of_ble_eq_true rfl)) rfl ?_
  refine aw_step (f1 := (272, [some (.ref (am_B + 1)), some (.ref 0), some (.ref 65), some (.int i)], [(.ref 65)])) (w1 := w6) (lt_f rfl (Nat.le_of_ble_eq_true rfl)) rfl ?_
  refine aw_step (f1 := (273, [some (.ref (am_B + 1)), some (.ref 0), some (.ref 65), some (.int i)], [(.ref (am_B + 1)), (.ref 65)])) (w1 := w6) (lt_f rfl (Nat.le_of_ble_eq_true rfl)) rfl ?_
  refine aw_step (f1 := (274, [some (.ref (am_B + 1)), some (.ref 0), some (.ref 65), some (.int i)], [(.int i), (.ref (am_B + 1)), (.ref 65)])) (w1 := w6) (lt_f rfl (Nat.le_of_ble_eq_true rfl)) rfl ?_
  refine x_i (pc1 := 275) (ls1 := [some (.ref (am_B + 1)), some (.ref 0), some (.ref 65), some (.int i)]) (st1 := [(.int i), (.ref (am_B + 1)), (.ref 65)]) (lt_f rfl (Nat.le_of_ble_eq_true rfl)) rfl fun x7 e8 => ?_
  have e8t : x7.toInt = 1 := by rw [e8]; rfl
  refine x_i (pc1 := 276) (ls1 := [some (.ref (am_B + 1)), some (.ref 0), some (.ref 65), some (.int i)]) (st1 := [(.ref (am_B + 1)), (.ref 65)]) (lt_f rfl (Nat.le_of_ble_eq_true rfl)) rfl fun x9 e10 => ?_
  have e10 : x9 = i + x7 := e10
  have e10t : x9.toInt = i.toInt + x7.toInt := by rw [e10]; exact n_add (by omega) (by omega)
  refine x_ia 277 (lt_f rfl (Nat.le_of_ble_eq_true rfl)) rfl (by omega) (by omega) ?_
  rw [show x9.toInt = i.toInt + 1 by omega]
  show aw (some X) _ 193 _ (277, [some (.ref (am_B + 1)), some (.ref 0), some (.ref 65), some (.int i)], [(.int (sx X (i.toInt + 1))), (.ref 65)]) w6
  refine x_cv (z := 123) (p := 65) (as := [(.int (sx X (i.toInt + 1)))]) (st1 := []) (Hw6) 280 (lt_f rfl (Nat.le_of_ble_eq_true rfl)) rfl rfl rfl rfl rfl rfl rfl (Nat.le_of_ble_eq_true rfl) (Nat.le_of_ble_eq_true rfl) ((tm_fault (sx X (i.toInt + 1)) (b := x5.toInt) (w6M)).deep (by omega)) ?_
  rintro _ w12 ⟨⟨Hw12, w12l⟩, x11, rfl, x11t⟩
  refine ⟨w12l, ?_⟩
  show aw (some X) _ 193 _ (280, [some (.ref (am_B + 1)), some (.ref 0), some (.ref 65), some (.int i)], [(.int x11)]) w12
  refine aw_step (f1 := (281, [some (.ref (am_B + 1)), some (.ref 0), some (.ref 65), some (.int i)], [])) (w1 := w12) (lt_f rfl (Nat.le_of_ble_eq_true rfl)) rfl ?_
  refine aw_step (f1 := (1476, [some (.ref (am_B + 1)), some (.ref 0), some (.ref 65), some (.int i)], [])) (w1 := w12) (lt_f rfl (Nat.le_of_ble_eq_true rfl)) rfl ?_
  exact K w12 Hw12
set_option maxRecDepth 100000 in
theorem lk_4 {X : List Int32} {Q : Option Value → am_W → Prop} {w : am_W} {i : Int32} (h0 : 0 ≤ i.toInt) (h6 : i.toInt + 6 ≤ X.length) (hX : X.length ≤ 384) (H : TI w) (K : ∀ w1, TI w1 → aw (some X) 60 193 Q (1476, [some (.ref (am_B + 1)), some (.ref 0), some (.ref 65), some (.int i)], []) w1) : aw (some X) 60 193 Q (284, [some (.ref (am_B + 1)), some (.ref 0), some (.ref 65), some (.int i)], []) w := by
  refine aw_step (f1 := (285, [some (.ref (am_B + 1)), some (.ref 0), some (.ref 65), some (.int i)], [(.ref 0)])) (w1 := w) (lt_f rfl (Nat.le_of_ble_eq_true rfl)) rfl ?_
  refine x_cv (z := 64) (p := 0) (as := []) (st1 := []) (H.inv) 288 (lt_f rfl (Nat.le_of_ble_eq_true rfl)) rfl rfl rfl rfl rfl rfl rfl (Nat.le_of_ble_eq_true rfl) (Nat.le_of_ble_eq_true rfl) ((tc_lay  H).deep (by omega)) ?_
  rintro _ w2 ⟨⟨Hw2, w2l⟩, x1, rfl, w2M⟩
  refine ⟨w2l, ?_⟩
  show aw (some X) _ 193 _ (288, [some (.ref (am_B + 1)), some (.ref 0), some (.ref 65), some (.int i)], [(.int x1)]) w2
  refine aw_step (f1 := (289, [some (.ref (am_B + 1)), some (.ref 0), some (.ref 65), some (.int i)], [])) (w1 := w2) (lt_f rfl (Nat.le_of_ble_eq_true rfl)) rfl ?_
  refine aw_step (f1 := (290, [some (.ref (am_B + 1)), some (.ref 0), some (.ref 65), some (.int i)], [(.ref 65)])) (w1 := w2) (lt_f rfl (Nat.le_of_ble_eq_true rfl)) rfl ?_
  refine x_cv (z := 124) (p := 65) (as := []) (st1 := []) (Hw2) 293 (lt_f rfl (Nat.le_of_ble_eq_true rfl)) rfl rfl rfl rfl rfl rfl rfl (Nat.le_of_ble_eq_true rfl) (Nat.le_of_ble_eq_true rfl) ((tm_lay  (b := x1.toInt) (w2M)).deep (by omega)) ?_
  rintro _ w4 ⟨⟨Hw4, w4l⟩, x3, rfl, x3t⟩
  refine ⟨w4l, ?_⟩
  show aw (some X) _ 193 _ (293, [some (.ref (am_B + 1)), some (.ref 0), some (.ref 65), some (.int i)], [(.int x3)]) w4
  refine aw_step (f1 := (294, [some (.ref (am_B + 1)), some (.ref 0), some (.ref 65), some (.int i)], [])) (w1 := w4) (lt_f rfl (Nat.le_of_ble_eq_true rfl)) rfl ?_
  refine aw_step (f1 := (1476, [some (.ref (am_B + 1)), some (.ref 0), some (.ref 65), some (.int i)], [])) (w1 := w4) (lt_f rfl (Nat.le_of_ble_eq_true rfl)) rfl ?_
  exact K w4 Hw4
set_option maxRecDepth 100000 in
theorem lk_5 {X : List Int32} {Q : Option Value → am_W → Prop} {w : am_W} {i : Int32} (h0 : 0 ≤ i.toInt) (h6 : i.toInt + 6 ≤ X.length) (hX : X.length ≤ 384) (H : TI w) (K : ∀ w1, TI w1 → aw (some X) 60 193 Q (1476, [some (.ref (am_B + 1)), some (.ref 0), some (.ref 65), some (.int i)], []) w1) : aw (some X) 60 193 Q (297, [some (.ref (am_B + 1)), some (.ref 0), some (.ref 65), some (.int i)], []) w := by
  refine aw_step (f1 := (298, [some (.ref (am_B + 1)), some (.ref 0), some (.ref 65), some (.int i)], [(.ref 0)])) (w1 := w) (lt_f rfl (Nat.le_of_ble_eq_true rfl)) rfl ?_
  refine aw_step (f1 := (299, [some (.ref (am_B + 1)), some (.ref 0), some (.ref 65), some (.int i)], [(.ref (am_B + 1)), (.ref 0)])) (w1 := w) (lt_f rfl (Nat.le_of_ble_eq_true rfl)) rfl ?_
  refine aw_step (f1 := (300, [some (.ref (am_B + 1)), some (.ref 0), some (.ref 65), some (.int i)], [(.int i), (.ref (am_B + 1)), (.ref 0)])) (w1 := w) (lt_f rfl (Nat.le_of_ble_eq_true rfl)) rfl ?_
  refine x_i (pc1 := 301) (ls1 := [some (.ref (am_B + 1)), some (.ref 0), some (.ref 65), some (.int i)]) (st1 := [(.int i), (.ref (am_B + 1)), (.ref 0)]) (lt_f rfl (Nat.le_of_ble_eq_true rfl)) rfl fun x1 e2 => ?_
  have e2t : x1.toInt = 1 := by rw [e2]; rfl
  refine x_i (pc1 := 302) (ls1 := [some (.ref (am_B + 1)), some (.ref 0), some (.ref 65), some (.int i)]) (st1 := [(.ref (am_B + 1)), (.ref 0)]) (lt_f rfl (Nat.le_of_ble_eq_true rfl)) rfl fun x3 e4 => ?_
  have e4 : x3 = i + x1 := e4
  have e4t : x3.toInt = i.toInt + x1.toInt := by rw [e4]; exact n_add (by omega) (by omega)
  refine x_ia 303 (lt_f rfl (Nat.le_of_ble_eq_true rfl)) rfl (by omega) (by omega) ?_
  rw [show x3.toInt = i.toInt + 1 by omega]
  show aw (some X) _ 193 _ (303, [some (.ref (am_B + 1)), some (.ref 0), some (.ref 65), some (.int i)], [(.int (sx X (i.toInt + 1))), (.ref 0)]) w
  refine x_cv (z := 65) (p := 0) (as := [(.int (sx X (i.toInt + 1)))]) (st1 := []) (H.inv) 306 (lt_f rfl (Nat.le_of_ble_eq_true rfl)) rfl rfl rfl rfl rfl rfl rfl (Nat.le_of_ble_eq_true rfl) (Nat.le_of_ble_eq_true rfl) ((tc_cell (sx X (i.toInt + 1)) H).deep (by omega)) ?_
  rintro _ w6 ⟨⟨Hw6, w6l⟩, x5, rfl, w6M⟩
  refine ⟨w6l, ?_⟩
  show aw (some X) _ 193 _ (306, [some (.ref (am_B + 1)), some (.ref 0), some (.ref 65), some (.int i)], [(.int x5)]) w6
  refine aw_step (f1 := (307, [some (.ref (am_B + 1)), some (.ref 0), some (.ref 65), some (.int i)], [])) (w1 := w6) (lt_f rfl (Nat.le_of_ble_eq_true rfl)) rfl ?_
  refine aw_step (f1 := (308, [some (.ref (am_B + 1)), some (.ref 0), some (.ref 65), some (.int i)], [(.ref 65)])) (w1 := w6) (lt_f rfl (Nat.le_of_ble_eq_true rfl)) rfl ?_
  refine aw_step (f1 := (309, [some (.ref (am_B + 1)), some (.ref 0), some (.ref 65), some (.int i)], [(.ref (am_B + 1)), (.ref 65)])) (w1 := w6) (lt_f rfl (Nat.le_of_ble_eq_true rfl)) rfl ?_
  refine aw_step (f1 := (310, [some (.ref (am_B + 1)), some (.ref 0), some (.ref 65), some (.int i)], [(.int i), (.ref (am_B + 1)), (.ref 65)])) (w1 := w6) (lt_f rfl (Nat.le_of_ble_eq_true rfl)) rfl ?_
  refine x_i (pc1 := 311) (ls1 := [some (.ref (am_B + 1)), some (.ref 0), some (.ref 65), some (.int i)]) (st1 := [(.int i), (.ref (am_B + 1)), (.ref 65)]) (lt_f rfl (Nat.le_of_ble_eq_true rfl)) rfl fun x7 e8 => ?_
  have e8t : x7.toInt = 1 := by rw [e8]; rfl
  refine x_i (pc1 := 312) (ls1 := [some (.ref (am_B + 1)), some (.ref 0), some (.ref 65), some (.int i)]) (st1 := [(.ref (am_B + 1)), (.ref 65)]) (lt_f rfl (Nat.le_of_ble_eq_true rfl)) rfl fun x9 e10 => ?_
  have e10 : x9 = i + x7 := e10
  have e10t : x9.toInt = i.toInt + x7.toInt := by rw [e10]; exact n_add (by omega) (by omega)
  refine x_ia 313 (lt_f rfl (Nat.le_of_ble_eq_true rfl)) rfl (by omega) (by omega) ?_
  rw [show x9.toInt = i.toInt + 1 by omega]
  show aw (some X) _ 193 _ (313, [some (.ref (am_B + 1)), some (.ref 0), some (.ref 65), some (.int i)], [(.int (sx X (i.toInt + 1))), (.ref 65)]) w6
  refine x_cv (z := 125) (p := 65) (as := [(.int (sx X (i.toInt + 1)))]) (st1 := []) (Hw6) 316 (lt_f rfl (Nat.le_of_ble_eq_true rfl)) rfl rfl rfl rfl rfl rfl rfl (Nat.le_of_ble_eq_true rfl) (Nat.le_of_ble_eq_true rfl) ((tm_cell (sx X (i.toInt + 1)) (b := x5.toInt) (w6M)).deep (by omega)) ?_
  rintro _ w12 ⟨⟨Hw12, w12l⟩, x11, rfl, x11t⟩
  refine ⟨w12l, ?_⟩
  show aw (some X) _ 193 _ (316, [some (.ref (am_B + 1)), some (.ref 0), some (.ref 65), some (.int i)], [(.int x11)]) w12
  refine aw_step (f1 := (317, [some (.ref (am_B + 1)), some (.ref 0), some (.ref 65), some (.int i)], [])) (w1 := w12) (lt_f rfl (Nat.le_of_ble_eq_true rfl)) rfl ?_
  refine aw_step (f1 := (1476, [some (.ref (am_B + 1)), some (.ref 0), some (.ref 65), some (.int i)], [])) (w1 := w12) (lt_f rfl (Nat.le_of_ble_eq_true rfl)) rfl ?_
  exact K w12 Hw12
set_option maxRecDepth 100000 in
theorem lk_6 {X : List Int32} {Q : Option Value → am_W → Prop} {w : am_W} {i : Int32} (h0 : 0 ≤ i.toInt) (h6 : i.toInt + 6 ≤ X.length) (hX : X.length ≤ 384) (H : TI w) (K : ∀ w1, TI w1 → aw (some X) 60 193 Q (1476, [some (.ref (am_B + 1)), some (.ref 0), some (.ref 65), some (.int i)], []) w1) : aw (some X) 60 193 Q (320, [some (.ref (am_B + 1)), some (.ref 0), some (.ref 65), some (.int i)], []) w := by
  refine aw_step (f1 := (321, [some (.ref (am_B + 1)), some (.ref 0), some (.ref 65), some (.int i)], [(.ref 0)])) (w1 := w) (lt_f rfl (Nat.le_of_ble_eq_true rfl)) rfl ?_
  refine aw_step (f1 := (322, [some (.ref (am_B + 1)), some (.ref 0), some (.ref 65), some (.int i)], [(.ref (am_B + 1)), (.ref 0)])) (w1 := w) (lt_f rfl (Nat.le_of_ble_eq_true rfl)) rfl ?_
  refine aw_step (f1 := (323, [some (.ref (am_B + 1)), some (.ref 0), some (.ref 65), some (.int i)], [(.int i), (.ref (am_B + 1)), (.ref 0)])) (w1 := w) (lt_f rfl (Nat.le_of_ble_eq_true rfl)) rfl ?_
  refine x_i (pc1 := 324) (ls1 := [some (.ref (am_B + 1)), some (.ref 0), some (.ref 65), some (.int i)]) (st1 := [(.int i), (.ref (am_B + 1)), (.ref 0)]) (lt_f rfl (Nat.le_of_ble_eq_true rfl)) rfl fun x1 e2 => ?_
  have e2t : x1.toInt = 1 := by rw [e2]; rfl
  refine x_i (pc1 := 325) (ls1 := [some (.ref (am_B + 1)), some (.ref 0), some (.ref 65), some (.int i)]) (st1 := [(.ref (am_B + 1)), (.ref 0)]) (lt_f rfl (Nat.le_of_ble_eq_true rfl)) rfl fun x3 e4 => ?_
  have e4 : x3 = i + x1 := e4
  have e4t : x3.toInt = i.toInt + x1.toInt := by rw [e4]; exact n_add (by omega) (by omega)
  refine x_ia 326 (lt_f rfl (Nat.le_of_ble_eq_true rfl)) rfl (by omega) (by omega) ?_
  rw [show x3.toInt = i.toInt + 1 by omega]
  show aw (some X) _ 193 _ (326, [some (.ref (am_B + 1)), some (.ref 0), some (.ref 65), some (.int i)], [(.int (sx X (i.toInt + 1))), (.ref 0)]) w
  refine x_cv (z := 66) (p := 0) (as := [(.int (sx X (i.toInt + 1)))]) (st1 := []) (H.inv) 329 (lt_f rfl (Nat.le_of_ble_eq_true rfl)) rfl rfl rfl rfl rfl rfl rfl (Nat.le_of_ble_eq_true rfl) (Nat.le_of_ble_eq_true rfl) ((tc_home (sx X (i.toInt + 1)) H).deep (by omega)) ?_
  rintro _ w6 ⟨⟨Hw6, w6l⟩, x5, rfl, w6M⟩
  refine ⟨w6l, ?_⟩
  show aw (some X) _ 193 _ (329, [some (.ref (am_B + 1)), some (.ref 0), some (.ref 65), some (.int i)], [(.int x5)]) w6
  refine aw_step (f1 := (330, [some (.ref (am_B + 1)), some (.ref 0), some (.ref 65), some (.int i)], [])) (w1 := w6) (lt_f rfl (Nat.le_of_ble_eq_true rfl)) rfl ?_
  refine aw_step (f1 := (331, [some (.ref (am_B + 1)), some (.ref 0), some (.ref 65), some (.int i)], [(.ref 65)])) (w1 := w6) (lt_f rfl (Nat.le_of_ble_eq_true rfl)) rfl ?_
  refine aw_step (f1 := (332, [some (.ref (am_B + 1)), some (.ref 0), some (.ref 65), some (.int i)], [(.ref (am_B + 1)), (.ref 65)])) (w1 := w6) (lt_f rfl (Nat.le_of_ble_eq_true rfl)) rfl ?_
  refine aw_step (f1 := (333, [some (.ref (am_B + 1)), some (.ref 0), some (.ref 65), some (.int i)], [(.int i), (.ref (am_B + 1)), (.ref 65)])) (w1 := w6) (lt_f rfl (Nat.le_of_ble_eq_true rfl)) rfl ?_
  refine x_i (pc1 := 334) (ls1 := [some (.ref (am_B + 1)), some (.ref 0), some (.ref 65), some (.int i)]) (st1 := [(.int i), (.ref (am_B + 1)), (.ref 65)]) (lt_f rfl (Nat.le_of_ble_eq_true rfl)) rfl fun x7 e8 => ?_
  have e8t : x7.toInt = 1 := by rw [e8]; rfl
  refine x_i (pc1 := 335) (ls1 := [some (.ref (am_B + 1)), some (.ref 0), some (.ref 65), some (.int i)]) (st1 := [(.ref (am_B + 1)), (.ref 65)]) (lt_f rfl (Nat.le_of_ble_eq_true rfl)) rfl fun x9 e10 => ?_
  have e10 : x9 = i + x7 := e10
  have e10t : x9.toInt = i.toInt + x7.toInt := by rw [e10]; exact n_add (by omega) (by omega)
  refine x_ia 336 (lt_f rfl (Nat.le_of_ble_eq_true rfl)) rfl (by omega) (by omega) ?_
  rw [show x9.toInt = i.toInt + 1 by omega]
  show aw (some X) _ 193 _ (336, [some (.ref (am_B + 1)), some (.ref 0), some (.ref 65), some (.int i)], [(.int (sx X (i.toInt + 1))), (.ref 65)]) w6
  refine x_cv (z := 126) (p := 65) (as := [(.int (sx X (i.toInt + 1)))]) (st1 := []) (Hw6) 339 (lt_f rfl (Nat.le_of_ble_eq_true rfl)) rfl rfl rfl rfl rfl rfl rfl (Nat.le_of_ble_eq_true rfl) (Nat.le_of_ble_eq_true rfl) ((tm_home (sx X (i.toInt + 1)) (b := x5.toInt) (w6M)).deep (by omega)) ?_
  rintro _ w12 ⟨⟨Hw12, w12l⟩, x11, rfl, x11t⟩
  refine ⟨w12l, ?_⟩
  show aw (some X) _ 193 _ (339, [some (.ref (am_B + 1)), some (.ref 0), some (.ref 65), some (.int i)], [(.int x11)]) w12
  refine aw_step (f1 := (340, [some (.ref (am_B + 1)), some (.ref 0), some (.ref 65), some (.int i)], [])) (w1 := w12) (lt_f rfl (Nat.le_of_ble_eq_true rfl)) rfl ?_
  refine aw_step (f1 := (1476, [some (.ref (am_B + 1)), some (.ref 0), some (.ref 65), some (.int i)], [])) (w1 := w12) (lt_f rfl (Nat.le_of_ble_eq_true rfl)) rfl ?_
  exact K w12 Hw12
set_option maxRecDepth 100000 in
theorem lk_7 {X : List Int32} {Q : Option Value → am_W → Prop} {w : am_W} {i : Int32} (h0 : 0 ≤ i.toInt) (h6 : i.toInt + 6 ≤ X.length) (hX : X.length ≤ 384) (H : TI w) (K : ∀ w1, TI w1 → aw (some X) 60 193 Q (1476, [some (.ref (am_B + 1)), some (.ref 0), some (.ref 65), some (.int i)], []) w1) : aw (some X) 60 193 Q (343, [some (.ref (am_B + 1)), some (.ref 0), some (.ref 65), some (.int i)], []) w := by
  refine aw_step (f1 := (344, [some (.ref (am_B + 1)), some (.ref 0), some (.ref 65), some (.int i)], [(.ref 0)])) (w1 := w) (lt_f rfl (Nat.le_of_ble_eq_true rfl)) rfl ?_
  refine aw_step (f1 := (345, [some (.ref (am_B + 1)), some (.ref 0), some (.ref 65), some (.int i)], [(.ref (am_B + 1)), (.ref 0)])) (w1 := w) (lt_f rfl (Nat.le_of_ble_eq_true rfl)) rfl ?_
  refine aw_step (f1 := (346, [some (.ref (am_B + 1)), some (.ref 0), some (.ref 65), some (.int i)], [(.int i), (.ref (am_B + 1)), (.ref 0)])) (w1 := w) (lt_f rfl (Nat.le_of_ble_eq_true rfl)) rfl ?_
  refine x_i (pc1 := 347) (ls1 := [some (.ref (am_B + 1)), some (.ref 0), some (.ref 65), some (.int i)]) (st1 := [(.int i), (.ref (am_B + 1)), (.ref 0)]) (lt_f rfl (Nat.le_of_ble_eq_true rfl)) rfl fun x1 e2 => ?_
  have e2t : x1.toInt = 1 := by rw [e2]; rfl
  refine x_i (pc1 := 348) (ls1 := [some (.ref (am_B + 1)), some (.ref 0), some (.ref 65), some (.int i)]) (st1 := [(.ref (am_B + 1)), (.ref 0)]) (lt_f rfl (Nat.le_of_ble_eq_true rfl)) rfl fun x3 e4 => ?_
  have e4 : x3 = i + x1 := e4
  have e4t : x3.toInt = i.toInt + x1.toInt := by rw [e4]; exact n_add (by omega) (by omega)
  refine x_ia 349 (lt_f rfl (Nat.le_of_ble_eq_true rfl)) rfl (by omega) (by omega) ?_
  rw [show x3.toInt = i.toInt + 1 by omega]
  show aw (some X) _ 193 _ (349, [some (.ref (am_B + 1)), some (.ref 0), some (.ref 65), some (.int i)], [(.int (sx X (i.toInt + 1))), (.ref 0)]) w
  refine aw_step (f1 := (350, [some (.ref (am_B + 1)), some (.ref 0), some (.ref 65), some (.int i)], [(.ref (am_B + 1)), (.int (sx X (i.toInt + 1))), (.ref 0)])) (w1 := w) (lt_f rfl (Nat.le_of_ble_eq_true rfl)) rfl ?_
  refine aw_step (f1 := (351, [some (.ref (am_B + 1)), some (.ref 0), some (.ref 65), some (.int i)], [(.int i), (.ref (am_B + 1)), (.int (sx X (i.toInt + 1))), (.ref 0)])) (w1 := w) (lt_f rfl (Nat.le_of_ble_eq_true rfl)) rfl ?_
  refine x_i (pc1 := 352) (ls1 := [some (.ref (am_B + 1)), some (.ref 0), some (.ref 65), some (.int i)]) (st1 := [(.int i), (.ref (am_B + 1)), (.int (sx X (i.toInt + 1))), (.ref 0)]) (lt_f rfl (Nat.le_of_ble_eq_true rfl)) rfl fun x5 e6 => ?_
  have e6t : x5.toInt = 2 := by rw [e6]; rfl
  refine x_i (pc1 := 353) (ls1 := [some (.ref (am_B + 1)), some (.ref 0), some (.ref 65), some (.int i)]) (st1 := [(.ref (am_B + 1)), (.int (sx X (i.toInt + 1))), (.ref 0)]) (lt_f rfl (Nat.le_of_ble_eq_true rfl)) rfl fun x7 e8 => ?_
  have e8 : x7 = i + x5 := e8
  have e8t : x7.toInt = i.toInt + x5.toInt := by rw [e8]; exact n_add (by omega) (by omega)
  refine x_ia 354 (lt_f rfl (Nat.le_of_ble_eq_true rfl)) rfl (by omega) (by omega) ?_
  rw [show x7.toInt = i.toInt + 2 by omega]
  show aw (some X) _ 193 _ (354, [some (.ref (am_B + 1)), some (.ref 0), some (.ref 65), some (.int i)], [(.int (sx X (i.toInt + 2))), (.int (sx X (i.toInt + 1))), (.ref 0)]) w
  refine x_if 361 357 (lt_f rfl (Nat.le_of_ble_eq_true rfl)) rfl rfl (fun (h9 : (sx X (i.toInt + 2)).toInt = 0) => ?_) (fun (h9 : ¬ ((sx X (i.toInt + 2)).toInt = 0)) => ?_)
  · --
    refine x_i (pc1 := 362) (ls1 := [some (.ref (am_B + 1)), some (.ref 0), some (.ref 65), some (.int i)]) (st1 := [(.int (sx X (i.toInt + 1))), (.ref 0)]) (lt_f rfl (Nat.le_of_ble_eq_true rfl)) rfl fun x10 e11 => ?_
    have e11t : x10.toInt = 0 := by rw [e11]; rfl
    refine x_cv (z := 67) (p := 0) (as := [(.int (sx X (i.toInt + 1))), (.int x10)]) (st1 := []) (H.inv) 365 (lt_f rfl (Nat.le_of_ble_eq_true rfl)) rfl rfl rfl rfl rfl rfl rfl (Nat.le_of_ble_eq_true rfl) (Nat.le_of_ble_eq_true rfl) ((tc_change (sx X (i.toInt + 1)) x10 (by omega) H).deep (by omega)) ?_
    rintro _ w13 ⟨⟨Hw13, w13l⟩, x12, rfl, w13M⟩
    refine ⟨w13l, ?_⟩
    show aw (some X) _ 193 _ (365, [some (.ref (am_B + 1)), some (.ref 0), some (.ref 65), some (.int i)], [(.int x12)]) w13
    refine aw_step (f1 := (366, [some (.ref (am_B + 1)), some (.ref 0), some (.ref 65), some (.int i)], [])) (w1 := w13) (lt_f rfl (Nat.le_of_ble_eq_true rfl)) rfl ?_
    refine aw_step (f1 := (367, [some (.ref (am_B + 1)), some (.ref 0), some (.ref 65), some (.int i)], [(.ref 65)])) (w1 := w13) (lt_f rfl (Nat.le_of_ble_eq_true rfl)) rfl ?_
    refine aw_step (f1 := (368, [some (.ref (am_B + 1)), some (.ref 0), some (.ref 65), some (.int i)], [(.ref (am_B + 1)), (.ref 65)])) (w1 := w13) (lt_f rfl (Nat.le_of_ble_eq_true rfl)) rfl ?_
    refine aw_step (f1 := (369, [some (.ref (am_B + 1)), some (.ref 0), some (.ref 65), some (.int i)], [(.int i), (.ref (am_B + 1)), (.ref 65)])) (w1 := w13) (lt_f rfl (Nat.le_of_ble_eq_true rfl)) rfl ?_
    refine x_i (pc1 := 370) (ls1 := [some (.ref (am_B + 1)), some (.ref 0), some (.ref 65), some (.int i)]) (st1 := [(.int i), (.ref (am_B + 1)), (.ref 65)]) (lt_f rfl (Nat.le_of_ble_eq_true rfl)) rfl fun x14 e15 => ?_
    have e15t : x14.toInt = 1 := by rw [e15]; rfl
    refine x_i (pc1 := 371) (ls1 := [some (.ref (am_B + 1)), some (.ref 0), some (.ref 65), some (.int i)]) (st1 := [(.ref (am_B + 1)), (.ref 65)]) (lt_f rfl (Nat.le_of_ble_eq_true rfl)) rfl fun x16 e17 => ?_
    have e17 : x16 = i + x14 := e17
    have e17t : x16.toInt = i.toInt + x14.toInt := by rw [e17]; exact n_add (by omega) (by omega)
    refine x_ia 372 (lt_f rfl (Nat.le_of_ble_eq_true rfl)) rfl (by omega) (by omega) ?_
    rw [show x16.toInt = i.toInt + 1 by omega]
    show aw (some X) _ 193 _ (372, [some (.ref (am_B + 1)), some (.ref 0), some (.ref 65), some (.int i)], [(.int (sx X (i.toInt + 1))), (.ref 65)]) w13
    refine aw_step (f1 := (373, [some (.ref (am_B + 1)), some (.ref 0), some (.ref 65), some (.int i)], [(.ref (am_B + 1)), (.int (sx X (i.toInt + 1))), (.ref 65)])) (w1 := w13) (lt_f rfl (Nat.le_of_ble_eq_true rfl)) rfl ?_
    refine aw_step (f1 := (374, [some (.ref (am_B + 1)), some (.ref 0), some (.ref 65), some (.int i)], [(.int i), (.ref (am_B + 1)), (.int (sx X (i.toInt + 1))), (.ref 65)])) (w1 := w13) (lt_f rfl (Nat.le_of_ble_eq_true rfl)) rfl ?_
    refine x_i (pc1 := 375) (ls1 := [some (.ref (am_B + 1)), some (.ref 0), some (.ref 65), some (.int i)]) (st1 := [(.int i), (.ref (am_B + 1)), (.int (sx X (i.toInt + 1))), (.ref 65)]) (lt_f rfl (Nat.le_of_ble_eq_true rfl)) rfl fun x18 e19 => ?_
    have e19t : x18.toInt = 2 := by rw [e19]; rfl
    refine x_i (pc1 := 376) (ls1 := [some (.ref (am_B + 1)), some (.ref 0), some (.ref 65), some (.int i)]) (st1 := [(.ref (am_B + 1)), (.int (sx X (i.toInt + 1))), (.ref 65)]) (lt_f rfl (Nat.le_of_ble_eq_true rfl)) rfl fun x20 e21 => ?_
    have e21 : x20 = i + x18 := e21
    have e21t : x20.toInt = i.toInt + x18.toInt := by rw [e21]; exact n_add (by omega) (by omega)
    refine x_ia 377 (lt_f rfl (Nat.le_of_ble_eq_true rfl)) rfl (by omega) (by omega) ?_
    rw [show x20.toInt = i.toInt + 2 by omega]
    show aw (some X) _ 193 _ (377, [some (.ref (am_B + 1)), some (.ref 0), some (.ref 65), some (.int i)], [(.int (sx X (i.toInt + 2))), (.int (sx X (i.toInt + 1))), (.ref 65)]) w13
    refine x_if 384 380 (lt_f rfl (Nat.le_of_ble_eq_true rfl)) rfl rfl (fun (h22 : (sx X (i.toInt + 2)).toInt = 0) => ?_) (fun (h22 : ¬ ((sx X (i.toInt + 2)).toInt = 0)) => ?_)
    · --
      refine x_i (pc1 := 385) (ls1 := [some (.ref (am_B + 1)), some (.ref 0), some (.ref 65), some (.int i)]) (st1 := [(.int (sx X (i.toInt + 1))), (.ref 65)]) (lt_f rfl (Nat.le_of_ble_eq_true rfl)) rfl fun x23 e24 => ?_
      have e24t : x23.toInt = 0 := by rw [e24]; rfl
      refine x_cv (z := 127) (p := 65) (as := [(.int (sx X (i.toInt + 1))), (.int x23)]) (st1 := []) (Hw13) 388 (lt_f rfl (Nat.le_of_ble_eq_true rfl)) rfl rfl rfl rfl rfl rfl rfl (Nat.le_of_ble_eq_true rfl) (Nat.le_of_ble_eq_true rfl) ((tm_change (sx X (i.toInt + 1)) x23 (by omega) (b := x12.toInt) ((show x10.toInt = x23.toInt by omega) ▸ w13M)).deep (by omega)) ?_
      rintro _ w26 ⟨⟨Hw26, w26l⟩, x25, rfl, x25t⟩
      refine ⟨w26l, ?_⟩
      show aw (some X) _ 193 _ (388, [some (.ref (am_B + 1)), some (.ref 0), some (.ref 65), some (.int i)], [(.int x25)]) w26
      refine aw_step (f1 := (389, [some (.ref (am_B + 1)), some (.ref 0), some (.ref 65), some (.int i)], [])) (w1 := w26) (lt_f rfl (Nat.le_of_ble_eq_true rfl)) rfl ?_
      refine aw_step (f1 := (1476, [some (.ref (am_B + 1)), some (.ref 0), some (.ref 65), some (.int i)], [])) (w1 := w26) (lt_f rfl (Nat.le_of_ble_eq_true rfl)) rfl ?_
      exact K w26 Hw26
    · --
      refine x_i (pc1 := 381) (ls1 := [some (.ref (am_B + 1)), some (.ref 0), some (.ref 65), some (.int i)]) (st1 := [(.int (sx X (i.toInt + 1))), (.ref 65)]) (lt_f rfl (Nat.le_of_ble_eq_true rfl)) rfl fun x27 e28 => ?_
      have e28t : x27.toInt = 1 := by rw [e28]; rfl
      refine aw_step (f1 := (385, [some (.ref (am_B + 1)), some (.ref 0), some (.ref 65), some (.int i)], [(.int x27), (.int (sx X (i.toInt + 1))), (.ref 65)])) (w1 := w13) (lt_f rfl (Nat.le_of_ble_eq_true rfl)) rfl ?_
      refine x_cv (z := 127) (p := 65) (as := [(.int (sx X (i.toInt + 1))), (.int x27)]) (st1 := []) (Hw13) 388 (lt_f rfl (Nat.le_of_ble_eq_true rfl)) rfl rfl rfl rfl rfl rfl rfl (Nat.le_of_ble_eq_true rfl) (Nat.le_of_ble_eq_true rfl) ((tm_change (sx X (i.toInt + 1)) x27 (by omega) (b := x12.toInt) ((show x10.toInt = x27.toInt by omega) ▸ w13M)).deep (by omega)) ?_
      rintro _ w30 ⟨⟨Hw30, w30l⟩, x29, rfl, x29t⟩
      refine ⟨w30l, ?_⟩
      show aw (some X) _ 193 _ (388, [some (.ref (am_B + 1)), some (.ref 0), some (.ref 65), some (.int i)], [(.int x29)]) w30
      refine aw_step (f1 := (389, [some (.ref (am_B + 1)), some (.ref 0), some (.ref 65), some (.int i)], [])) (w1 := w30) (lt_f rfl (Nat.le_of_ble_eq_true rfl)) rfl ?_
      refine aw_step (f1 := (1476, [some (.ref (am_B + 1)), some (.ref 0), some (.ref 65), some (.int i)], [])) (w1 := w30) (lt_f rfl (Nat.le_of_ble_eq_true rfl)) rfl ?_
      exact K w30 Hw30
  · --
    refine x_i (pc1 := 358) (ls1 := [some (.ref (am_B + 1)), some (.ref 0), some (.ref 65), some (.int i)]) (st1 := [(.int (sx X (i.toInt + 1))), (.ref 0)]) (lt_f rfl (Nat.le_of_ble_eq_true rfl)) rfl fun x31 e32 => ?_
    have e32t : x31.toInt = 1 := by rw [e32]; rfl
    refine aw_step (f1 := (362, [some (.ref (am_B + 1)), some (.ref 0), some (.ref 65), some (.int i)], [(.int x31), (.int (sx X (i.toInt + 1))), (.ref 0)])) (w1 := w) (lt_f rfl (Nat.le_of_ble_eq_true rfl)) rfl ?_
    refine x_cv (z := 67) (p := 0) (as := [(.int (sx X (i.toInt + 1))), (.int x31)]) (st1 := []) (H.inv) 365 (lt_f rfl (Nat.le_of_ble_eq_true rfl)) rfl rfl rfl rfl rfl rfl rfl (Nat.le_of_ble_eq_true rfl) (Nat.le_of_ble_eq_true rfl) ((tc_change (sx X (i.toInt + 1)) x31 (by omega) H).deep (by omega)) ?_
    rintro _ w34 ⟨⟨Hw34, w34l⟩, x33, rfl, w34M⟩
    refine ⟨w34l, ?_⟩
    show aw (some X) _ 193 _ (365, [some (.ref (am_B + 1)), some (.ref 0), some (.ref 65), some (.int i)], [(.int x33)]) w34
    refine aw_step (f1 := (366, [some (.ref (am_B + 1)), some (.ref 0), some (.ref 65), some (.int i)], [])) (w1 := w34) (lt_f rfl (Nat.le_of_ble_eq_true rfl)) rfl ?_
    refine aw_step (f1 := (367, [some (.ref (am_B + 1)), some (.ref 0), some (.ref 65), some (.int i)], [(.ref 65)])) (w1 := w34) (lt_f rfl (Nat.le_of_ble_eq_true rfl)) rfl ?_
    refine aw_step (f1 := (368, [some (.ref (am_B + 1)), some (.ref 0), some (.ref 65), some (.int i)], [(.ref (am_B + 1)), (.ref 65)])) (w1 := w34) (lt_f rfl (Nat.le_of_ble_eq_true rfl)) rfl ?_
    refine aw_step (f1 := (369, [some (.ref (am_B + 1)), some (.ref 0), some (.ref 65), some (.int i)], [(.int i), (.ref (am_B + 1)), (.ref 65)])) (w1 := w34) (lt_f rfl (Nat.le_of_ble_eq_true rfl)) rfl ?_
    refine x_i (pc1 := 370) (ls1 := [some (.ref (am_B + 1)), some (.ref 0), some (.ref 65), some (.int i)]) (st1 := [(.int i), (.ref (am_B + 1)), (.ref 65)]) (lt_f rfl (Nat.le_of_ble_eq_true rfl)) rfl fun x35 e36 => ?_
    have e36t : x35.toInt = 1 := by rw [e36]; rfl
    refine x_i (pc1 := 371) (ls1 := [some (.ref (am_B + 1)), some (.ref 0), some (.ref 65), some (.int i)]) (st1 := [(.ref (am_B + 1)), (.ref 65)]) (lt_f rfl (Nat.le_of_ble_eq_true rfl)) rfl fun x37 e38 => ?_
    have e38 : x37 = i + x35 := e38
    have e38t : x37.toInt = i.toInt + x35.toInt := by rw [e38]; exact n_add (by omega) (by omega)
    refine x_ia 372 (lt_f rfl (Nat.le_of_ble_eq_true rfl)) rfl (by omega) (by omega) ?_
    rw [show x37.toInt = i.toInt + 1 by omega]
    show aw (some X) _ 193 _ (372, [some (.ref (am_B + 1)), some (.ref 0), some (.ref 65), some (.int i)], [(.int (sx X (i.toInt + 1))), (.ref 65)]) w34
    refine aw_step (f1 := (373, [some (.ref (am_B + 1)), some (.ref 0), some (.ref 65), some (.int i)], [(.ref (am_B + 1)), (.int (sx X (i.toInt + 1))), (.ref 65)])) (w1 := w34) (lt_f rfl (Nat.le_of_ble_eq_true rfl)) rfl ?_
    refine aw_step (f1 := (374, [some (.ref (am_B + 1)), some (.ref 0), some (.ref 65), some (.int i)], [(.int i), (.ref (am_B + 1)), (.int (sx X (i.toInt + 1))), (.ref 65)])) (w1 := w34) (lt_f rfl (Nat.le_of_ble_eq_true rfl)) rfl ?_
    refine x_i (pc1 := 375) (ls1 := [some (.ref (am_B + 1)), some (.ref 0), some (.ref 65), some (.int i)]) (st1 := [(.int i), (.ref (am_B + 1)), (.int (sx X (i.toInt + 1))), (.ref 65)]) (lt_f rfl (Nat.le_of_ble_eq_true rfl)) rfl fun x39 e40 => ?_
    have e40t : x39.toInt = 2 := by rw [e40]; rfl
    refine x_i (pc1 := 376) (ls1 := [some (.ref (am_B + 1)), some (.ref 0), some (.ref 65), some (.int i)]) (st1 := [(.ref (am_B + 1)), (.int (sx X (i.toInt + 1))), (.ref 65)]) (lt_f rfl (Nat.le_of_ble_eq_true rfl)) rfl fun x41 e42 => ?_
    have e42 : x41 = i + x39 := e42
    have e42t : x41.toInt = i.toInt + x39.toInt := by rw [e42]; exact n_add (by omega) (by omega)
    refine x_ia 377 (lt_f rfl (Nat.le_of_ble_eq_true rfl)) rfl (by omega) (by omega) ?_
    rw [show x41.toInt = i.toInt + 2 by omega]
    show aw (some X) _ 193 _ (377, [some (.ref (am_B + 1)), some (.ref 0), some (.ref 65), some (.int i)], [(.int (sx X (i.toInt + 2))), (.int (sx X (i.toInt + 1))), (.ref 65)]) w34
    refine x_if 384 380 (lt_f rfl (Nat.le_of_ble_eq_true rfl)) rfl rfl (fun (h43 : (sx X (i.toInt + 2)).toInt = 0) => ?_) (fun (h43 : ¬ ((sx X (i.toInt + 2)).toInt = 0)) => ?_)
    · --
      refine x_i (pc1 := 385) (ls1 := [some (.ref (am_B + 1)), some (.ref 0), some (.ref 65), some (.int i)]) (st1 := [(.int (sx X (i.toInt + 1))), (.ref 65)]) (lt_f rfl (Nat.le_of_ble_eq_true rfl)) rfl fun x44 e45 => ?_
      have e45t : x44.toInt = 0 := by rw [e45]; rfl
      refine x_cv (z := 127) (p := 65) (as := [(.int (sx X (i.toInt + 1))), (.int x44)]) (st1 := []) (Hw34) 388 (lt_f rfl (Nat.le_of_ble_eq_true rfl)) rfl rfl rfl rfl rfl rfl rfl (Nat.le_of_ble_eq_true rfl) (Nat.le_of_ble_eq_true rfl) ((tm_change (sx X (i.toInt + 1)) x44 (by omega) (b := x33.toInt) ((show x31.toInt = x44.toInt by omega) ▸ w34M)).deep (by omega)) ?_
      rintro _ w47 ⟨⟨Hw47, w47l⟩, x46, rfl, x46t⟩
      refine ⟨w47l, ?_⟩
      show aw (some X) _ 193 _ (388, [some (.ref (am_B + 1)), some (.ref 0), some (.ref 65), some (.int i)], [(.int x46)]) w47
      refine aw_step (f1 := (389, [some (.ref (am_B + 1)), some (.ref 0), some (.ref 65), some (.int i)], [])) (w1 := w47) (lt_f rfl (Nat.le_of_ble_eq_true rfl)) rfl ?_
      refine aw_step (f1 := (1476, [some (.ref (am_B + 1)), some (.ref 0), some (.ref 65), some (.int i)], [])) (w1 := w47) (lt_f rfl (Nat.le_of_ble_eq_true rfl)) rfl ?_
      exact K w47 Hw47
    · --
      refine x_i (pc1 := 381) (ls1 := [some (.ref (am_B + 1)), some (.ref 0), some (.ref 65), some (.int i)]) (st1 := [(.int (sx X (i.toInt + 1))), (.ref 65)]) (lt_f rfl (Nat.le_of_ble_eq_true rfl)) rfl fun x48 e49 => ?_
      have e49t : x48.toInt = 1 := by rw [e49]; rfl
      refine aw_step (f1 := (385, [some (.ref (am_B + 1)), some (.ref 0), some (.ref 65), some (.int i)], [(.int x48), (.int (sx X (i.toInt + 1))), (.ref 65)])) (w1 := w34) (lt_f rfl (Nat.le_of_ble_eq_true rfl)) rfl ?_
      refine x_cv (z := 127) (p := 65) (as := [(.int (sx X (i.toInt + 1))), (.int x48)]) (st1 := []) (Hw34) 388 (lt_f rfl (Nat.le_of_ble_eq_true rfl)) rfl rfl rfl rfl rfl rfl rfl (Nat.le_of_ble_eq_true rfl) (Nat.le_of_ble_eq_true rfl) ((tm_change (sx X (i.toInt + 1)) x48 (by omega) (b := x33.toInt) ((show x31.toInt = x48.toInt by omega) ▸ w34M)).deep (by omega)) ?_
      rintro _ w51 ⟨⟨Hw51, w51l⟩, x50, rfl, x50t⟩
      refine ⟨w51l, ?_⟩
      show aw (some X) _ 193 _ (388, [some (.ref (am_B + 1)), some (.ref 0), some (.ref 65), some (.int i)], [(.int x50)]) w51
      refine aw_step (f1 := (389, [some (.ref (am_B + 1)), some (.ref 0), some (.ref 65), some (.int i)], [])) (w1 := w51) (lt_f rfl (Nat.le_of_ble_eq_true rfl)) rfl ?_
      refine aw_step (f1 := (1476, [some (.ref (am_B + 1)), some (.ref 0), some (.ref 65), some (.int i)], [])) (w1 := w51) (lt_f rfl (Nat.le_of_ble_eq_true rfl)) rfl ?_
      exact K w51 Hw51
set_option maxRecDepth 100000 in
theorem lk_8 {X : List Int32} {Q : Option Value → am_W → Prop} {w : am_W} {i : Int32} (h0 : 0 ≤ i.toInt) (h6 : i.toInt + 6 ≤ X.length) (hX : X.length ≤ 384) (H : TI w) (K : ∀ w1, TI w1 → aw (some X) 60 193 Q (1476, [some (.ref (am_B + 1)), some (.ref 0), some (.ref 65), some (.int i)], []) w1) : aw (some X) 60 193 Q (392, [some (.ref (am_B + 1)), some (.ref 0), some (.ref 65), some (.int i)], []) w := by
  refine aw_step (f1 := (393, [some (.ref (am_B + 1)), some (.ref 0), some (.ref 65), some (.int i)], [(.ref 0)])) (w1 := w) (lt_f rfl (Nat.le_of_ble_eq_true rfl)) rfl ?_
  refine aw_step (f1 := (394, [some (.ref (am_B + 1)), some (.ref 0), some (.ref 65), some (.int i)], [(.ref (am_B + 1)), (.ref 0)])) (w1 := w) (lt_f rfl (Nat.le_of_ble_eq_true rfl)) rfl ?_
  refine aw_step (f1 := (395, [some (.ref (am_B + 1)), some (.ref 0), some (.ref 65), some (.int i)], [(.int i), (.ref (am_B + 1)), (.ref 0)])) (w1 := w) (lt_f rfl (Nat.le_of_ble_eq_true rfl)) rfl ?_
  refine x_i (pc1 := 396) (ls1 := [some (.ref (am_B + 1)), some (.ref 0), some (.ref 65), some (.int i)]) (st1 := [(.int i), (.ref (am_B + 1)), (.ref 0)]) (lt_f rfl (Nat.le_of_ble_eq_true rfl)) rfl fun x1 e2 => ?_
  have e2t : x1.toInt = 1 := by rw [e2]; rfl
  refine x_i (pc1 := 397) (ls1 := [some (.ref (am_B + 1)), some (.ref 0), some (.ref 65), some (.int i)]) (st1 := [(.ref (am_B + 1)), (.ref 0)]) (lt_f rfl (Nat.le_of_ble_eq_true rfl)) rfl fun x3 e4 => ?_
  have e4 : x3 = i + x1 := e4
  have e4t : x3.toInt = i.toInt + x1.toInt := by rw [e4]; exact n_add (by omega) (by omega)
  refine x_ia 398 (lt_f rfl (Nat.le_of_ble_eq_true rfl)) rfl (by omega) (by omega) ?_
  rw [show x3.toInt = i.toInt + 1 by omega]
  show aw (some X) _ 193 _ (398, [some (.ref (am_B + 1)), some (.ref 0), some (.ref 65), some (.int i)], [(.int (sx X (i.toInt + 1))), (.ref 0)]) w
  refine aw_step (f1 := (399, [some (.ref (am_B + 1)), some (.ref 0), some (.ref 65), some (.int i)], [(.ref (am_B + 1)), (.int (sx X (i.toInt + 1))), (.ref 0)])) (w1 := w) (lt_f rfl (Nat.le_of_ble_eq_true rfl)) rfl ?_
  refine aw_step (f1 := (400, [some (.ref (am_B + 1)), some (.ref 0), some (.ref 65), some (.int i)], [(.int i), (.ref (am_B + 1)), (.int (sx X (i.toInt + 1))), (.ref 0)])) (w1 := w) (lt_f rfl (Nat.le_of_ble_eq_true rfl)) rfl ?_
  refine x_i (pc1 := 401) (ls1 := [some (.ref (am_B + 1)), some (.ref 0), some (.ref 65), some (.int i)]) (st1 := [(.int i), (.ref (am_B + 1)), (.int (sx X (i.toInt + 1))), (.ref 0)]) (lt_f rfl (Nat.le_of_ble_eq_true rfl)) rfl fun x5 e6 => ?_
  have e6t : x5.toInt = 2 := by rw [e6]; rfl
  refine x_i (pc1 := 402) (ls1 := [some (.ref (am_B + 1)), some (.ref 0), some (.ref 65), some (.int i)]) (st1 := [(.ref (am_B + 1)), (.int (sx X (i.toInt + 1))), (.ref 0)]) (lt_f rfl (Nat.le_of_ble_eq_true rfl)) rfl fun x7 e8 => ?_
  have e8 : x7 = i + x5 := e8
  have e8t : x7.toInt = i.toInt + x5.toInt := by rw [e8]; exact n_add (by omega) (by omega)
  refine x_ia 403 (lt_f rfl (Nat.le_of_ble_eq_true rfl)) rfl (by omega) (by omega) ?_
  rw [show x7.toInt = i.toInt + 2 by omega]
  show aw (some X) _ 193 _ (403, [some (.ref (am_B + 1)), some (.ref 0), some (.ref 65), some (.int i)], [(.int (sx X (i.toInt + 2))), (.int (sx X (i.toInt + 1))), (.ref 0)]) w
  refine aw_step (f1 := (404, [some (.ref (am_B + 1)), some (.ref 0), some (.ref 65), some (.int i)], [(.ref (am_B + 1)), (.int (sx X (i.toInt + 2))), (.int (sx X (i.toInt + 1))), (.ref 0)])) (w1 := w) (lt_f rfl (Nat.le_of_ble_eq_true rfl)) rfl ?_
  refine aw_step (f1 := (405, [some (.ref (am_B + 1)), some (.ref 0), some (.ref 65), some (.int i)], [(.int i), (.ref (am_B + 1)), (.int (sx X (i.toInt + 2))), (.int (sx X (i.toInt + 1))), (.ref 0)])) (w1 := w) (lt_f rfl (Nat.le_of_ble_eq_true rfl)) rfl ?_
  refine x_i (pc1 := 406) (ls1 := [some (.ref (am_B + 1)), some (.ref 0), some (.ref 65), some (.int i)]) (st1 := [(.int i), (.ref (am_B + 1)), (.int (sx X (i.toInt + 2))), (.int (sx X (i.toInt + 1))), (.ref 0)]) (lt_f rfl (Nat.le_of_ble_eq_true rfl)) rfl fun x9 e10 => ?_
  have e10t : x9.toInt = 3 := by rw [e10]; rfl
  refine x_i (pc1 := 407) (ls1 := [some (.ref (am_B + 1)), some (.ref 0), some (.ref 65), some (.int i)]) (st1 := [(.ref (am_B + 1)), (.int (sx X (i.toInt + 2))), (.int (sx X (i.toInt + 1))), (.ref 0)]) (lt_f rfl (Nat.le_of_ble_eq_true rfl)) rfl fun x11 e12 => ?_
  have e12 : x11 = i + x9 := e12
  have e12t : x11.toInt = i.toInt + x9.toInt := by rw [e12]; exact n_add (by omega) (by omega)
  refine x_ia 408 (lt_f rfl (Nat.le_of_ble_eq_true rfl)) rfl (by omega) (by omega) ?_
  rw [show x11.toInt = i.toInt + 3 by omega]
  show aw (some X) _ 193 _ (408, [some (.ref (am_B + 1)), some (.ref 0), some (.ref 65), some (.int i)], [(.int (sx X (i.toInt + 3))), (.int (sx X (i.toInt + 2))), (.int (sx X (i.toInt + 1))), (.ref 0)]) w
  refine x_cv (z := 68) (p := 0) (as := [(.int (sx X (i.toInt + 1))), (.int (sx X (i.toInt + 2))), (.int (sx X (i.toInt + 3)))]) (st1 := []) (H.inv) 411 (lt_f rfl (Nat.le_of_ble_eq_true rfl)) rfl rfl rfl rfl rfl rfl rfl (Nat.le_of_ble_eq_true rfl) (Nat.le_of_ble_eq_true rfl) ((tc_boots (sx X (i.toInt + 1)) (sx X (i.toInt + 2)) (sx X (i.toInt + 3)) H).deep (by omega)) ?_
  rintro _ w14 ⟨⟨Hw14, w14l⟩, x13, rfl, w14M⟩
  refine ⟨w14l, ?_⟩
  show aw (some X) _ 193 _ (411, [some (.ref (am_B + 1)), some (.ref 0), some (.ref 65), some (.int i)], [(.int x13)]) w14
  refine aw_step (f1 := (412, [some (.ref (am_B + 1)), some (.ref 0), some (.ref 65), some (.int i)], [])) (w1 := w14) (lt_f rfl (Nat.le_of_ble_eq_true rfl)) rfl ?_
  refine aw_step (f1 := (413, [some (.ref (am_B + 1)), some (.ref 0), some (.ref 65), some (.int i)], [(.ref 65)])) (w1 := w14) (lt_f rfl (Nat.le_of_ble_eq_true rfl)) rfl ?_
  refine aw_step (f1 := (414, [some (.ref (am_B + 1)), some (.ref 0), some (.ref 65), some (.int i)], [(.ref (am_B + 1)), (.ref 65)])) (w1 := w14) (lt_f rfl (Nat.le_of_ble_eq_true rfl)) rfl ?_
  refine aw_step (f1 := (415, [some (.ref (am_B + 1)), some (.ref 0), some (.ref 65), some (.int i)], [(.int i), (.ref (am_B + 1)), (.ref 65)])) (w1 := w14) (lt_f rfl (Nat.le_of_ble_eq_true rfl)) rfl ?_
  refine x_i (pc1 := 416) (ls1 := [some (.ref (am_B + 1)), some (.ref 0), some (.ref 65), some (.int i)]) (st1 := [(.int i), (.ref (am_B + 1)), (.ref 65)]) (lt_f rfl (Nat.le_of_ble_eq_true rfl)) rfl fun x15 e16 => ?_
  have e16t : x15.toInt = 1 := by rw [e16]; rfl
  refine x_i (pc1 := 417) (ls1 := [some (.ref (am_B + 1)), some (.ref 0), some (.ref 65), some (.int i)]) (st1 := [(.ref (am_B + 1)), (.ref 65)]) (lt_f rfl (Nat.le_of_ble_eq_true rfl)) rfl fun x17 e18 => ?_
  have e18 : x17 = i + x15 := e18
  have e18t : x17.toInt = i.toInt + x15.toInt := by rw [e18]; exact n_add (by omega) (by omega)
  refine x_ia 418 (lt_f rfl (Nat.le_of_ble_eq_true rfl)) rfl (by omega) (by omega) ?_
  rw [show x17.toInt = i.toInt + 1 by omega]
  show aw (some X) _ 193 _ (418, [some (.ref (am_B + 1)), some (.ref 0), some (.ref 65), some (.int i)], [(.int (sx X (i.toInt + 1))), (.ref 65)]) w14
  refine aw_step (f1 := (419, [some (.ref (am_B + 1)), some (.ref 0), some (.ref 65), some (.int i)], [(.ref (am_B + 1)), (.int (sx X (i.toInt + 1))), (.ref 65)])) (w1 := w14) (lt_f rfl (Nat.le_of_ble_eq_true rfl)) rfl ?_
  refine aw_step (f1 := (420, [some (.ref (am_B + 1)), some (.ref 0), some (.ref 65), some (.int i)], [(.int i), (.ref (am_B + 1)), (.int (sx X (i.toInt + 1))), (.ref 65)])) (w1 := w14) (lt_f rfl (Nat.le_of_ble_eq_true rfl)) rfl ?_
  refine x_i (pc1 := 421) (ls1 := [some (.ref (am_B + 1)), some (.ref 0), some (.ref 65), some (.int i)]) (st1 := [(.int i), (.ref (am_B + 1)), (.int (sx X (i.toInt + 1))), (.ref 65)]) (lt_f rfl (Nat.le_of_ble_eq_true rfl)) rfl fun x19 e20 => ?_
  have e20t : x19.toInt = 2 := by rw [e20]; rfl
  refine x_i (pc1 := 422) (ls1 := [some (.ref (am_B + 1)), some (.ref 0), some (.ref 65), some (.int i)]) (st1 := [(.ref (am_B + 1)), (.int (sx X (i.toInt + 1))), (.ref 65)]) (lt_f rfl (Nat.le_of_ble_eq_true rfl)) rfl fun x21 e22 => ?_
  have e22 : x21 = i + x19 := e22
  have e22t : x21.toInt = i.toInt + x19.toInt := by rw [e22]; exact n_add (by omega) (by omega)
  refine x_ia 423 (lt_f rfl (Nat.le_of_ble_eq_true rfl)) rfl (by omega) (by omega) ?_
  rw [show x21.toInt = i.toInt + 2 by omega]
  show aw (some X) _ 193 _ (423, [some (.ref (am_B + 1)), some (.ref 0), some (.ref 65), some (.int i)], [(.int (sx X (i.toInt + 2))), (.int (sx X (i.toInt + 1))), (.ref 65)]) w14
  refine aw_step (f1 := (424, [some (.ref (am_B + 1)), some (.ref 0), some (.ref 65), some (.int i)], [(.ref (am_B + 1)), (.int (sx X (i.toInt + 2))), (.int (sx X (i.toInt + 1))), (.ref 65)])) (w1 := w14) (lt_f rfl (Nat.le_of_ble_eq_true rfl)) rfl ?_
  refine aw_step (f1 := (425, [some (.ref (am_B + 1)), some (.ref 0), some (.ref 65), some (.int i)], [(.int i), (.ref (am_B + 1)), (.int (sx X (i.toInt + 2))), (.int (sx X (i.toInt + 1))), (.ref 65)])) (w1 := w14) (lt_f rfl (Nat.le_of_ble_eq_true rfl)) rfl ?_
  refine x_i (pc1 := 426) (ls1 := [some (.ref (am_B + 1)), some (.ref 0), some (.ref 65), some (.int i)]) (st1 := [(.int i), (.ref (am_B + 1)), (.int (sx X (i.toInt + 2))), (.int (sx X (i.toInt + 1))), (.ref 65)]) (lt_f rfl (Nat.le_of_ble_eq_true rfl)) rfl fun x23 e24 => ?_
  have e24t : x23.toInt = 3 := by rw [e24]; rfl
  refine x_i (pc1 := 427) (ls1 := [some (.ref (am_B + 1)), some (.ref 0), some (.ref 65), some (.int i)]) (st1 := [(.ref (am_B + 1)), (.int (sx X (i.toInt + 2))), (.int (sx X (i.toInt + 1))), (.ref 65)]) (lt_f rfl (Nat.le_of_ble_eq_true rfl)) rfl fun x25 e26 => ?_
  have e26 : x25 = i + x23 := e26
  have e26t : x25.toInt = i.toInt + x23.toInt := by rw [e26]; exact n_add (by omega) (by omega)
  refine x_ia 428 (lt_f rfl (Nat.le_of_ble_eq_true rfl)) rfl (by omega) (by omega) ?_
  rw [show x25.toInt = i.toInt + 3 by omega]
  show aw (some X) _ 193 _ (428, [some (.ref (am_B + 1)), some (.ref 0), some (.ref 65), some (.int i)], [(.int (sx X (i.toInt + 3))), (.int (sx X (i.toInt + 2))), (.int (sx X (i.toInt + 1))), (.ref 65)]) w14
  refine x_cv (z := 128) (p := 65) (as := [(.int (sx X (i.toInt + 1))), (.int (sx X (i.toInt + 2))), (.int (sx X (i.toInt + 3)))]) (st1 := []) (Hw14) 431 (lt_f rfl (Nat.le_of_ble_eq_true rfl)) rfl rfl rfl rfl rfl rfl rfl (Nat.le_of_ble_eq_true rfl) (Nat.le_of_ble_eq_true rfl) ((tm_boots (sx X (i.toInt + 1)) (sx X (i.toInt + 2)) (sx X (i.toInt + 3)) (b := x13.toInt) (w14M)).deep (by omega)) ?_
  rintro _ w28 ⟨⟨Hw28, w28l⟩, x27, rfl, x27t⟩
  refine ⟨w28l, ?_⟩
  show aw (some X) _ 193 _ (431, [some (.ref (am_B + 1)), some (.ref 0), some (.ref 65), some (.int i)], [(.int x27)]) w28
  refine aw_step (f1 := (432, [some (.ref (am_B + 1)), some (.ref 0), some (.ref 65), some (.int i)], [])) (w1 := w28) (lt_f rfl (Nat.le_of_ble_eq_true rfl)) rfl ?_
  refine aw_step (f1 := (1476, [some (.ref (am_B + 1)), some (.ref 0), some (.ref 65), some (.int i)], [])) (w1 := w28) (lt_f rfl (Nat.le_of_ble_eq_true rfl)) rfl ?_
  exact K w28 Hw28
set_option maxRecDepth 100000 in
theorem lk_9 {X : List Int32} {Q : Option Value → am_W → Prop} {w : am_W} {i : Int32} (h0 : 0 ≤ i.toInt) (h6 : i.toInt + 6 ≤ X.length) (hX : X.length ≤ 384) (H : TI w) (K : ∀ w1, TI w1 → aw (some X) 60 193 Q (1476, [some (.ref (am_B + 1)), some (.ref 0), some (.ref 65), some (.int i)], []) w1) : aw (some X) 60 193 Q (435, [some (.ref (am_B + 1)), some (.ref 0), some (.ref 65), some (.int i)], []) w := by
  refine aw_step (f1 := (436, [some (.ref (am_B + 1)), some (.ref 0), some (.ref 65), some (.int i)], [(.ref 0)])) (w1 := w) (lt_f rfl (Nat.le_of_ble_eq_true rfl)) rfl ?_
  refine aw_step (f1 := (437, [some (.ref (am_B + 1)), some (.ref 0), some (.ref 65), some (.int i)], [(.ref (am_B + 1)), (.ref 0)])) (w1 := w) (lt_f rfl (Nat.le_of_ble_eq_true rfl)) rfl ?_
  refine aw_step (f1 := (438, [some (.ref (am_B + 1)), some (.ref 0), some (.ref 65), some (.int i)], [(.int i), (.ref (am_B + 1)), (.ref 0)])) (w1 := w) (lt_f rfl (Nat.le_of_ble_eq_true rfl)) rfl ?_
  refine x_i (pc1 := 439) (ls1 := [some (.ref (am_B + 1)), some (.ref 0), some (.ref 65), some (.int i)]) (st1 := [(.int i), (.ref (am_B + 1)), (.ref 0)]) (lt_f rfl (Nat.le_of_ble_eq_true rfl)) rfl fun x1 e2 => ?_
  have e2t : x1.toInt = 1 := by rw [e2]; rfl
  refine x_i (pc1 := 440) (ls1 := [some (.ref (am_B + 1)), some (.ref 0), some (.ref 65), some (.int i)]) (st1 := [(.ref (am_B + 1)), (.ref 0)]) (lt_f rfl (Nat.le_of_ble_eq_true rfl)) rfl fun x3 e4 => ?_
  have e4 : x3 = i + x1 := e4
  have e4t : x3.toInt = i.toInt + x1.toInt := by rw [e4]; exact n_add (by omega) (by omega)
  refine x_ia 441 (lt_f rfl (Nat.le_of_ble_eq_true rfl)) rfl (by omega) (by omega) ?_
  rw [show x3.toInt = i.toInt + 1 by omega]
  show aw (some X) _ 193 _ (441, [some (.ref (am_B + 1)), some (.ref 0), some (.ref 65), some (.int i)], [(.int (sx X (i.toInt + 1))), (.ref 0)]) w
  refine aw_step (f1 := (442, [some (.ref (am_B + 1)), some (.ref 0), some (.ref 65), some (.int i)], [(.ref (am_B + 1)), (.int (sx X (i.toInt + 1))), (.ref 0)])) (w1 := w) (lt_f rfl (Nat.le_of_ble_eq_true rfl)) rfl ?_
  refine aw_step (f1 := (443, [some (.ref (am_B + 1)), some (.ref 0), some (.ref 65), some (.int i)], [(.int i), (.ref (am_B + 1)), (.int (sx X (i.toInt + 1))), (.ref 0)])) (w1 := w) (lt_f rfl (Nat.le_of_ble_eq_true rfl)) rfl ?_
  refine x_i (pc1 := 444) (ls1 := [some (.ref (am_B + 1)), some (.ref 0), some (.ref 65), some (.int i)]) (st1 := [(.int i), (.ref (am_B + 1)), (.int (sx X (i.toInt + 1))), (.ref 0)]) (lt_f rfl (Nat.le_of_ble_eq_true rfl)) rfl fun x5 e6 => ?_
  have e6t : x5.toInt = 2 := by rw [e6]; rfl
  refine x_i (pc1 := 445) (ls1 := [some (.ref (am_B + 1)), some (.ref 0), some (.ref 65), some (.int i)]) (st1 := [(.ref (am_B + 1)), (.int (sx X (i.toInt + 1))), (.ref 0)]) (lt_f rfl (Nat.le_of_ble_eq_true rfl)) rfl fun x7 e8 => ?_
  have e8 : x7 = i + x5 := e8
  have e8t : x7.toInt = i.toInt + x5.toInt := by rw [e8]; exact n_add (by omega) (by omega)
  refine x_ia 446 (lt_f rfl (Nat.le_of_ble_eq_true rfl)) rfl (by omega) (by omega) ?_
  rw [show x7.toInt = i.toInt + 2 by omega]
  show aw (some X) _ 193 _ (446, [some (.ref (am_B + 1)), some (.ref 0), some (.ref 65), some (.int i)], [(.int (sx X (i.toInt + 2))), (.int (sx X (i.toInt + 1))), (.ref 0)]) w
  refine x_cv (z := 69) (p := 0) (as := [(.int (sx X (i.toInt + 1))), (.int (sx X (i.toInt + 2)))]) (st1 := []) (H.inv) 449 (lt_f rfl (Nat.le_of_ble_eq_true rfl)) rfl rfl rfl rfl rfl rfl rfl (Nat.le_of_ble_eq_true rfl) (Nat.le_of_ble_eq_true rfl) ((tc_minutes (sx X (i.toInt + 1)) (sx X (i.toInt + 2)) H).deep (by omega)) ?_
  rintro _ w10 ⟨⟨Hw10, w10l⟩, x9, rfl, w10M⟩
  refine ⟨w10l, ?_⟩
  show aw (some X) _ 193 _ (449, [some (.ref (am_B + 1)), some (.ref 0), some (.ref 65), some (.int i)], [(.int x9)]) w10
  refine aw_step (f1 := (450, [some (.ref (am_B + 1)), some (.ref 0), some (.ref 65), some (.int i)], [])) (w1 := w10) (lt_f rfl (Nat.le_of_ble_eq_true rfl)) rfl ?_
  refine aw_step (f1 := (451, [some (.ref (am_B + 1)), some (.ref 0), some (.ref 65), some (.int i)], [(.ref 65)])) (w1 := w10) (lt_f rfl (Nat.le_of_ble_eq_true rfl)) rfl ?_
  refine aw_step (f1 := (452, [some (.ref (am_B + 1)), some (.ref 0), some (.ref 65), some (.int i)], [(.ref (am_B + 1)), (.ref 65)])) (w1 := w10) (lt_f rfl (Nat.le_of_ble_eq_true rfl)) rfl ?_
  refine aw_step (f1 := (453, [some (.ref (am_B + 1)), some (.ref 0), some (.ref 65), some (.int i)], [(.int i), (.ref (am_B + 1)), (.ref 65)])) (w1 := w10) (lt_f rfl (Nat.le_of_ble_eq_true rfl)) rfl ?_
  refine x_i (pc1 := 454) (ls1 := [some (.ref (am_B + 1)), some (.ref 0), some (.ref 65), some (.int i)]) (st1 := [(.int i), (.ref (am_B + 1)), (.ref 65)]) (lt_f rfl (Nat.le_of_ble_eq_true rfl)) rfl fun x11 e12 => ?_
  have e12t : x11.toInt = 1 := by rw [e12]; rfl
  refine x_i (pc1 := 455) (ls1 := [some (.ref (am_B + 1)), some (.ref 0), some (.ref 65), some (.int i)]) (st1 := [(.ref (am_B + 1)), (.ref 65)]) (lt_f rfl (Nat.le_of_ble_eq_true rfl)) rfl fun x13 e14 => ?_
  have e14 : x13 = i + x11 := e14
  have e14t : x13.toInt = i.toInt + x11.toInt := by rw [e14]; exact n_add (by omega) (by omega)
  refine x_ia 456 (lt_f rfl (Nat.le_of_ble_eq_true rfl)) rfl (by omega) (by omega) ?_
  rw [show x13.toInt = i.toInt + 1 by omega]
  show aw (some X) _ 193 _ (456, [some (.ref (am_B + 1)), some (.ref 0), some (.ref 65), some (.int i)], [(.int (sx X (i.toInt + 1))), (.ref 65)]) w10
  refine aw_step (f1 := (457, [some (.ref (am_B + 1)), some (.ref 0), some (.ref 65), some (.int i)], [(.ref (am_B + 1)), (.int (sx X (i.toInt + 1))), (.ref 65)])) (w1 := w10) (lt_f rfl (Nat.le_of_ble_eq_true rfl)) rfl ?_
  refine aw_step (f1 := (458, [some (.ref (am_B + 1)), some (.ref 0), some (.ref 65), some (.int i)], [(.int i), (.ref (am_B + 1)), (.int (sx X (i.toInt + 1))), (.ref 65)])) (w1 := w10) (lt_f rfl (Nat.le_of_ble_eq_true rfl)) rfl ?_
  refine x_i (pc1 := 459) (ls1 := [some (.ref (am_B + 1)), some (.ref 0), some (.ref 65), some (.int i)]) (st1 := [(.int i), (.ref (am_B + 1)), (.int (sx X (i.toInt + 1))), (.ref 65)]) (lt_f rfl (Nat.le_of_ble_eq_true rfl)) rfl fun x15 e16 => ?_
  have e16t : x15.toInt = 2 := by rw [e16]; rfl
  refine x_i (pc1 := 460) (ls1 := [some (.ref (am_B + 1)), some (.ref 0), some (.ref 65), some (.int i)]) (st1 := [(.ref (am_B + 1)), (.int (sx X (i.toInt + 1))), (.ref 65)]) (lt_f rfl (Nat.le_of_ble_eq_true rfl)) rfl fun x17 e18 => ?_
  have e18 : x17 = i + x15 := e18
  have e18t : x17.toInt = i.toInt + x15.toInt := by rw [e18]; exact n_add (by omega) (by omega)
  refine x_ia 461 (lt_f rfl (Nat.le_of_ble_eq_true rfl)) rfl (by omega) (by omega) ?_
  rw [show x17.toInt = i.toInt + 2 by omega]
  show aw (some X) _ 193 _ (461, [some (.ref (am_B + 1)), some (.ref 0), some (.ref 65), some (.int i)], [(.int (sx X (i.toInt + 2))), (.int (sx X (i.toInt + 1))), (.ref 65)]) w10
  refine x_cv (z := 129) (p := 65) (as := [(.int (sx X (i.toInt + 1))), (.int (sx X (i.toInt + 2)))]) (st1 := []) (Hw10) 464 (lt_f rfl (Nat.le_of_ble_eq_true rfl)) rfl rfl rfl rfl rfl rfl rfl (Nat.le_of_ble_eq_true rfl) (Nat.le_of_ble_eq_true rfl) ((tm_minutes (sx X (i.toInt + 1)) (sx X (i.toInt + 2)) (b := x9.toInt) (w10M)).deep (by omega)) ?_
  rintro _ w20 ⟨⟨Hw20, w20l⟩, x19, rfl, x19t⟩
  refine ⟨w20l, ?_⟩
  show aw (some X) _ 193 _ (464, [some (.ref (am_B + 1)), some (.ref 0), some (.ref 65), some (.int i)], [(.int x19)]) w20
  refine aw_step (f1 := (465, [some (.ref (am_B + 1)), some (.ref 0), some (.ref 65), some (.int i)], [])) (w1 := w20) (lt_f rfl (Nat.le_of_ble_eq_true rfl)) rfl ?_
  refine aw_step (f1 := (1476, [some (.ref (am_B + 1)), some (.ref 0), some (.ref 65), some (.int i)], [])) (w1 := w20) (lt_f rfl (Nat.le_of_ble_eq_true rfl)) rfl ?_
  exact K w20 Hw20
set_option maxRecDepth 100000 in
theorem lk_10 {X : List Int32} {Q : Option Value → am_W → Prop} {w : am_W} {i : Int32} (h0 : 0 ≤ i.toInt) (h6 : i.toInt + 6 ≤ X.length) (hX : X.length ≤ 384) (H : TI w) (K : ∀ w1, TI w1 → aw (some X) 60 193 Q (1476, [some (.ref (am_B + 1)), some (.ref 0), some (.ref 65), some (.int i)], []) w1) : aw (some X) 60 193 Q (468, [some (.ref (am_B + 1)), some (.ref 0), some (.ref 65), some (.int i)], []) w := by
  refine aw_step (f1 := (469, [some (.ref (am_B + 1)), some (.ref 0), some (.ref 65), some (.int i)], [(.ref 0)])) (w1 := w) (lt_f rfl (Nat.le_of_ble_eq_true rfl)) rfl ?_
  refine aw_step (f1 := (470, [some (.ref (am_B + 1)), some (.ref 0), some (.ref 65), some (.int i)], [(.ref (am_B + 1)), (.ref 0)])) (w1 := w) (lt_f rfl (Nat.le_of_ble_eq_true rfl)) rfl ?_
  refine aw_step (f1 := (471, [some (.ref (am_B + 1)), some (.ref 0), some (.ref 65), some (.int i)], [(.int i), (.ref (am_B + 1)), (.ref 0)])) (w1 := w) (lt_f rfl (Nat.le_of_ble_eq_true rfl)) rfl ?_
  refine x_i (pc1 := 472) (ls1 := [some (.ref (am_B + 1)), some (.ref 0), some (.ref 65), some (.int i)]) (st1 := [(.int i), (.ref (am_B + 1)), (.ref 0)]) (lt_f rfl (Nat.le_of_ble_eq_true rfl)) rfl fun x1 e2 => ?_
  have e2t : x1.toInt = 1 := by rw [e2]; rfl
  refine x_i (pc1 := 473) (ls1 := [some (.ref (am_B + 1)), some (.ref 0), some (.ref 65), some (.int i)]) (st1 := [(.ref (am_B + 1)), (.ref 0)]) (lt_f rfl (Nat.le_of_ble_eq_true rfl)) rfl fun x3 e4 => ?_
  have e4 : x3 = i + x1 := e4
  have e4t : x3.toInt = i.toInt + x1.toInt := by rw [e4]; exact n_add (by omega) (by omega)
  refine x_ia 474 (lt_f rfl (Nat.le_of_ble_eq_true rfl)) rfl (by omega) (by omega) ?_
  rw [show x3.toInt = i.toInt + 1 by omega]
  show aw (some X) _ 193 _ (474, [some (.ref (am_B + 1)), some (.ref 0), some (.ref 65), some (.int i)], [(.int (sx X (i.toInt + 1))), (.ref 0)]) w
  refine x_cv (z := 70) (p := 0) (as := [(.int (sx X (i.toInt + 1)))]) (st1 := []) (H.inv) 477 (lt_f rfl (Nat.le_of_ble_eq_true rfl)) rfl rfl rfl rfl rfl rfl rfl (Nat.le_of_ble_eq_true rfl) (Nat.le_of_ble_eq_true rfl) ((tc_judge (sx X (i.toInt + 1)) H).deep (by omega)) ?_
  rintro _ w6 ⟨⟨Hw6, w6l⟩, x5, rfl⟩
  refine ⟨w6l, ?_⟩
  show aw (some X) _ 193 _ (477, [some (.ref (am_B + 1)), some (.ref 0), some (.ref 65), some (.int i)], [(.int x5)]) w6
  refine aw_step (f1 := (478, [some (.ref (am_B + 1)), some (.ref 0), some (.ref 65), some (.int i)], [])) (w1 := w6) (lt_f rfl (Nat.le_of_ble_eq_true rfl)) rfl ?_
  refine aw_step (f1 := (479, [some (.ref (am_B + 1)), some (.ref 0), some (.ref 65), some (.int i)], [(.ref 65)])) (w1 := w6) (lt_f rfl (Nat.le_of_ble_eq_true rfl)) rfl ?_
  refine aw_step (f1 := (480, [some (.ref (am_B + 1)), some (.ref 0), some (.ref 65), some (.int i)], [(.ref (am_B + 1)), (.ref 65)])) (w1 := w6) (lt_f rfl (Nat.le_of_ble_eq_true rfl)) rfl ?_
  refine aw_step (f1 := (481, [some (.ref (am_B + 1)), some (.ref 0), some (.ref 65), some (.int i)], [(.int i), (.ref (am_B + 1)), (.ref 65)])) (w1 := w6) (lt_f rfl (Nat.le_of_ble_eq_true rfl)) rfl ?_
  refine x_i (pc1 := 482) (ls1 := [some (.ref (am_B + 1)), some (.ref 0), some (.ref 65), some (.int i)]) (st1 := [(.int i), (.ref (am_B + 1)), (.ref 65)]) (lt_f rfl (Nat.le_of_ble_eq_true rfl)) rfl fun x7 e8 => ?_
  have e8t : x7.toInt = 1 := by rw [e8]; rfl
  refine x_i (pc1 := 483) (ls1 := [some (.ref (am_B + 1)), some (.ref 0), some (.ref 65), some (.int i)]) (st1 := [(.ref (am_B + 1)), (.ref 65)]) (lt_f rfl (Nat.le_of_ble_eq_true rfl)) rfl fun x9 e10 => ?_
  have e10 : x9 = i + x7 := e10
  have e10t : x9.toInt = i.toInt + x7.toInt := by rw [e10]; exact n_add (by omega) (by omega)
  refine x_ia 484 (lt_f rfl (Nat.le_of_ble_eq_true rfl)) rfl (by omega) (by omega) ?_
  rw [show x9.toInt = i.toInt + 1 by omega]
  show aw (some X) _ 193 _ (484, [some (.ref (am_B + 1)), some (.ref 0), some (.ref 65), some (.int i)], [(.int (sx X (i.toInt + 1))), (.ref 65)]) w6
  refine x_cv (z := 139) (p := 65) (as := [(.int (sx X (i.toInt + 1)))]) (st1 := []) (Hw6.inv) 487 (lt_f rfl (Nat.le_of_ble_eq_true rfl)) rfl rfl rfl rfl rfl rfl rfl (Nat.le_of_ble_eq_true rfl) (Nat.le_of_ble_eq_true rfl) ((tm_judge (sx X (i.toInt + 1)) Hw6).deep (by omega)) ?_
  rintro _ w12 ⟨⟨Hw12, w12l⟩, x11, rfl⟩
  refine ⟨w12l, ?_⟩
  show aw (some X) _ 193 _ (487, [some (.ref (am_B + 1)), some (.ref 0), some (.ref 65), some (.int i)], [(.int x11)]) w12
  refine aw_step (f1 := (488, [some (.ref (am_B + 1)), some (.ref 0), some (.ref 65), some (.int i)], [])) (w1 := w12) (lt_f rfl (Nat.le_of_ble_eq_true rfl)) rfl ?_
  refine aw_step (f1 := (1476, [some (.ref (am_B + 1)), some (.ref 0), some (.ref 65), some (.int i)], [])) (w1 := w12) (lt_f rfl (Nat.le_of_ble_eq_true rfl)) rfl ?_
  exact K w12 Hw12
set_option maxRecDepth 100000 in
theorem lk_11 {X : List Int32} {Q : Option Value → am_W → Prop} {w : am_W} {i : Int32} (h0 : 0 ≤ i.toInt) (h6 : i.toInt + 6 ≤ X.length) (hX : X.length ≤ 384) (H : TI w) (K : ∀ w1, TI w1 → aw (some X) 60 193 Q (1476, [some (.ref (am_B + 1)), some (.ref 0), some (.ref 65), some (.int i)], []) w1) : aw (some X) 60 193 Q (491, [some (.ref (am_B + 1)), some (.ref 0), some (.ref 65), some (.int i)], []) w := by
  refine aw_step (f1 := (492, [some (.ref (am_B + 1)), some (.ref 0), some (.ref 65), some (.int i)], [(.ref 0)])) (w1 := w) (lt_f rfl (Nat.le_of_ble_eq_true rfl)) rfl ?_
  refine aw_step (f1 := (493, [some (.ref (am_B + 1)), some (.ref 0), some (.ref 65), some (.int i)], [(.ref (am_B + 1)), (.ref 0)])) (w1 := w) (lt_f rfl (Nat.le_of_ble_eq_true rfl)) rfl ?_
  refine aw_step (f1 := (494, [some (.ref (am_B + 1)), some (.ref 0), some (.ref 65), some (.int i)], [(.int i), (.ref (am_B + 1)), (.ref 0)])) (w1 := w) (lt_f rfl (Nat.le_of_ble_eq_true rfl)) rfl ?_
  refine x_i (pc1 := 495) (ls1 := [some (.ref (am_B + 1)), some (.ref 0), some (.ref 65), some (.int i)]) (st1 := [(.int i), (.ref (am_B + 1)), (.ref 0)]) (lt_f rfl (Nat.le_of_ble_eq_true rfl)) rfl fun x1 e2 => ?_
  have e2t : x1.toInt = 1 := by rw [e2]; rfl
  refine x_i (pc1 := 496) (ls1 := [some (.ref (am_B + 1)), some (.ref 0), some (.ref 65), some (.int i)]) (st1 := [(.ref (am_B + 1)), (.ref 0)]) (lt_f rfl (Nat.le_of_ble_eq_true rfl)) rfl fun x3 e4 => ?_
  have e4 : x3 = i + x1 := e4
  have e4t : x3.toInt = i.toInt + x1.toInt := by rw [e4]; exact n_add (by omega) (by omega)
  refine x_ia 497 (lt_f rfl (Nat.le_of_ble_eq_true rfl)) rfl (by omega) (by omega) ?_
  rw [show x3.toInt = i.toInt + 1 by omega]
  show aw (some X) _ 193 _ (497, [some (.ref (am_B + 1)), some (.ref 0), some (.ref 65), some (.int i)], [(.int (sx X (i.toInt + 1))), (.ref 0)]) w
  refine aw_step (f1 := (498, [some (.ref (am_B + 1)), some (.ref 0), some (.ref 65), some (.int i)], [(.ref (am_B + 1)), (.int (sx X (i.toInt + 1))), (.ref 0)])) (w1 := w) (lt_f rfl (Nat.le_of_ble_eq_true rfl)) rfl ?_
  refine aw_step (f1 := (499, [some (.ref (am_B + 1)), some (.ref 0), some (.ref 65), some (.int i)], [(.int i), (.ref (am_B + 1)), (.int (sx X (i.toInt + 1))), (.ref 0)])) (w1 := w) (lt_f rfl (Nat.le_of_ble_eq_true rfl)) rfl ?_
  refine x_i (pc1 := 500) (ls1 := [some (.ref (am_B + 1)), some (.ref 0), some (.ref 65), some (.int i)]) (st1 := [(.int i), (.ref (am_B + 1)), (.int (sx X (i.toInt + 1))), (.ref 0)]) (lt_f rfl (Nat.le_of_ble_eq_true rfl)) rfl fun x5 e6 => ?_
  have e6t : x5.toInt = 2 := by rw [e6]; rfl
  refine x_i (pc1 := 501) (ls1 := [some (.ref (am_B + 1)), some (.ref 0), some (.ref 65), some (.int i)]) (st1 := [(.ref (am_B + 1)), (.int (sx X (i.toInt + 1))), (.ref 0)]) (lt_f rfl (Nat.le_of_ble_eq_true rfl)) rfl fun x7 e8 => ?_
  have e8 : x7 = i + x5 := e8
  have e8t : x7.toInt = i.toInt + x5.toInt := by rw [e8]; exact n_add (by omega) (by omega)
  refine x_ia 502 (lt_f rfl (Nat.le_of_ble_eq_true rfl)) rfl (by omega) (by omega) ?_
  rw [show x7.toInt = i.toInt + 2 by omega]
  show aw (some X) _ 193 _ (502, [some (.ref (am_B + 1)), some (.ref 0), some (.ref 65), some (.int i)], [(.int (sx X (i.toInt + 2))), (.int (sx X (i.toInt + 1))), (.ref 0)]) w
  refine x_cv (z := 71) (p := 0) (as := [(.int (sx X (i.toInt + 1))), (.int (sx X (i.toInt + 2)))]) (st1 := []) (H.inv) 505 (lt_f rfl (Nat.le_of_ble_eq_true rfl)) rfl rfl rfl rfl rfl rfl rfl (Nat.le_of_ble_eq_true rfl) (Nat.le_of_ble_eq_true rfl) ((tc_leads (sx X (i.toInt + 1)) (sx X (i.toInt + 2)) H).deep (by omega)) ?_
  rintro _ w10 ⟨⟨Hw10, w10l⟩, y9, rfl⟩
  refine ⟨w10l, ?_⟩
  show aw (some X) _ 193 _ (505, [some (.ref (am_B + 1)), some (.ref 0), some (.ref 65), some (.int i)], [(.long y9)]) w10
  refine aw_step (f1 := (506, [some (.ref (am_B + 1)), some (.ref 0), some (.ref 65), some (.int i)], [])) (w1 := w10) (lt_f rfl (Nat.le_of_ble_eq_true rfl)) rfl ?_
  refine aw_step (f1 := (507, [some (.ref (am_B + 1)), some (.ref 0), some (.ref 65), some (.int i)], [(.ref 65)])) (w1 := w10) (lt_f rfl (Nat.le_of_ble_eq_true rfl)) rfl ?_
  refine aw_step (f1 := (508, [some (.ref (am_B + 1)), some (.ref 0), some (.ref 65), some (.int i)], [(.ref (am_B + 1)), (.ref 65)])) (w1 := w10) (lt_f rfl (Nat.le_of_ble_eq_true rfl)) rfl ?_
  refine aw_step (f1 := (509, [some (.ref (am_B + 1)), some (.ref 0), some (.ref 65), some (.int i)], [(.int i), (.ref (am_B + 1)), (.ref 65)])) (w1 := w10) (lt_f rfl (Nat.le_of_ble_eq_true rfl)) rfl ?_
  refine x_i (pc1 := 510) (ls1 := [some (.ref (am_B + 1)), some (.ref 0), some (.ref 65), some (.int i)]) (st1 := [(.int i), (.ref (am_B + 1)), (.ref 65)]) (lt_f rfl (Nat.le_of_ble_eq_true rfl)) rfl fun x11 e12 => ?_
  have e12t : x11.toInt = 1 := by rw [e12]; rfl
  refine x_i (pc1 := 511) (ls1 := [some (.ref (am_B + 1)), some (.ref 0), some (.ref 65), some (.int i)]) (st1 := [(.ref (am_B + 1)), (.ref 65)]) (lt_f rfl (Nat.le_of_ble_eq_true rfl)) rfl fun x13 e14 => ?_
  have e14 : x13 = i + x11 := e14
  have e14t : x13.toInt = i.toInt + x11.toInt := by rw [e14]; exact n_add (by omega) (by omega)
  refine x_ia 512 (lt_f rfl (Nat.le_of_ble_eq_true rfl)) rfl (by omega) (by omega) ?_
  rw [show x13.toInt = i.toInt + 1 by omega]
  show aw (some X) _ 193 _ (512, [some (.ref (am_B + 1)), some (.ref 0), some (.ref 65), some (.int i)], [(.int (sx X (i.toInt + 1))), (.ref 65)]) w10
  refine aw_step (f1 := (513, [some (.ref (am_B + 1)), some (.ref 0), some (.ref 65), some (.int i)], [(.ref (am_B + 1)), (.int (sx X (i.toInt + 1))), (.ref 65)])) (w1 := w10) (lt_f rfl (Nat.le_of_ble_eq_true rfl)) rfl ?_
  refine aw_step (f1 := (514, [some (.ref (am_B + 1)), some (.ref 0), some (.ref 65), some (.int i)], [(.int i), (.ref (am_B + 1)), (.int (sx X (i.toInt + 1))), (.ref 65)])) (w1 := w10) (lt_f rfl (Nat.le_of_ble_eq_true rfl)) rfl ?_
  refine x_i (pc1 := 515) (ls1 := [some (.ref (am_B + 1)), some (.ref 0), some (.ref 65), some (.int i)]) (st1 := [(.int i), (.ref (am_B + 1)), (.int (sx X (i.toInt + 1))), (.ref 65)]) (lt_f rfl (Nat.le_of_ble_eq_true rfl)) rfl fun x15 e16 => ?_
  have e16t : x15.toInt = 2 := by rw [e16]; rfl
  refine x_i (pc1 := 516) (ls1 := [some (.ref (am_B + 1)), some (.ref 0), some (.ref 65), some (.int i)]) (st1 := [(.ref (am_B + 1)), (.int (sx X (i.toInt + 1))), (.ref 65)]) (lt_f rfl (Nat.le_of_ble_eq_true rfl)) rfl fun x17 e18 => ?_
  have e18 : x17 = i + x15 := e18
  have e18t : x17.toInt = i.toInt + x15.toInt := by rw [e18]; exact n_add (by omega) (by omega)
  refine x_ia 517 (lt_f rfl (Nat.le_of_ble_eq_true rfl)) rfl (by omega) (by omega) ?_
  rw [show x17.toInt = i.toInt + 2 by omega]
  show aw (some X) _ 193 _ (517, [some (.ref (am_B + 1)), some (.ref 0), some (.ref 65), some (.int i)], [(.int (sx X (i.toInt + 2))), (.int (sx X (i.toInt + 1))), (.ref 65)]) w10
  refine x_cv (z := 140) (p := 65) (as := [(.int (sx X (i.toInt + 1))), (.int (sx X (i.toInt + 2)))]) (st1 := []) (Hw10.inv) 520 (lt_f rfl (Nat.le_of_ble_eq_true rfl)) rfl rfl rfl rfl rfl rfl rfl (Nat.le_of_ble_eq_true rfl) (Nat.le_of_ble_eq_true rfl) ((tm_leads (sx X (i.toInt + 1)) (sx X (i.toInt + 2)) Hw10).deep (by omega)) ?_
  rintro _ w20 ⟨⟨Hw20, w20l⟩, y19, rfl⟩
  refine ⟨w20l, ?_⟩
  show aw (some X) _ 193 _ (520, [some (.ref (am_B + 1)), some (.ref 0), some (.ref 65), some (.int i)], [(.long y19)]) w20
  refine aw_step (f1 := (521, [some (.ref (am_B + 1)), some (.ref 0), some (.ref 65), some (.int i)], [])) (w1 := w20) (lt_f rfl (Nat.le_of_ble_eq_true rfl)) rfl ?_
  refine aw_step (f1 := (1476, [some (.ref (am_B + 1)), some (.ref 0), some (.ref 65), some (.int i)], [])) (w1 := w20) (lt_f rfl (Nat.le_of_ble_eq_true rfl)) rfl ?_
  exact K w20 Hw20
set_option maxRecDepth 100000 in
theorem lk_12 {X : List Int32} {Q : Option Value → am_W → Prop} {w : am_W} {i : Int32} (h0 : 0 ≤ i.toInt) (h6 : i.toInt + 6 ≤ X.length) (hX : X.length ≤ 384) (H : TI w) (K : ∀ w1, TI w1 → aw (some X) 60 193 Q (1476, [some (.ref (am_B + 1)), some (.ref 0), some (.ref 65), some (.int i)], []) w1) : aw (some X) 60 193 Q (524, [some (.ref (am_B + 1)), some (.ref 0), some (.ref 65), some (.int i)], []) w := by
  refine aw_step (f1 := (525, [some (.ref (am_B + 1)), some (.ref 0), some (.ref 65), some (.int i)], [(.ref 0)])) (w1 := w) (lt_f rfl (Nat.le_of_ble_eq_true rfl)) rfl ?_
  refine aw_step (f1 := (526, [some (.ref (am_B + 1)), some (.ref 0), some (.ref 65), some (.int i)], [(.ref (am_B + 1)), (.ref 0)])) (w1 := w) (lt_f rfl (Nat.le_of_ble_eq_true rfl)) rfl ?_
  refine aw_step (f1 := (527, [some (.ref (am_B + 1)), some (.ref 0), some (.ref 65), some (.int i)], [(.int i), (.ref (am_B + 1)), (.ref 0)])) (w1 := w) (lt_f rfl (Nat.le_of_ble_eq_true rfl)) rfl ?_
  refine x_i (pc1 := 528) (ls1 := [some (.ref (am_B + 1)), some (.ref 0), some (.ref 65), some (.int i)]) (st1 := [(.int i), (.ref (am_B + 1)), (.ref 0)]) (lt_f rfl (Nat.le_of_ble_eq_true rfl)) rfl fun x1 e2 => ?_
  have e2t : x1.toInt = 1 := by rw [e2]; rfl
  refine x_i (pc1 := 529) (ls1 := [some (.ref (am_B + 1)), some (.ref 0), some (.ref 65), some (.int i)]) (st1 := [(.ref (am_B + 1)), (.ref 0)]) (lt_f rfl (Nat.le_of_ble_eq_true rfl)) rfl fun x3 e4 => ?_
  have e4 : x3 = i + x1 := e4
  have e4t : x3.toInt = i.toInt + x1.toInt := by rw [e4]; exact n_add (by omega) (by omega)
  refine x_ia 530 (lt_f rfl (Nat.le_of_ble_eq_true rfl)) rfl (by omega) (by omega) ?_
  rw [show x3.toInt = i.toInt + 1 by omega]
  show aw (some X) _ 193 _ (530, [some (.ref (am_B + 1)), some (.ref 0), some (.ref 65), some (.int i)], [(.int (sx X (i.toInt + 1))), (.ref 0)]) w
  refine x_cv (z := 72) (p := 0) (as := [(.int (sx X (i.toInt + 1)))]) (st1 := []) (H.inv) 533 (lt_f rfl (Nat.le_of_ble_eq_true rfl)) rfl rfl rfl rfl rfl rfl rfl (Nat.le_of_ble_eq_true rfl) (Nat.le_of_ble_eq_true rfl) ((tc_strides (sx X (i.toInt + 1)) H).deep (by omega)) ?_
  rintro _ w6 ⟨⟨Hw6, w6l⟩, x5, rfl⟩
  refine ⟨w6l, ?_⟩
  show aw (some X) _ 193 _ (533, [some (.ref (am_B + 1)), some (.ref 0), some (.ref 65), some (.int i)], [(.int x5)]) w6
  refine aw_step (f1 := (534, [some (.ref (am_B + 1)), some (.ref 0), some (.ref 65), some (.int i)], [])) (w1 := w6) (lt_f rfl (Nat.le_of_ble_eq_true rfl)) rfl ?_
  refine aw_step (f1 := (535, [some (.ref (am_B + 1)), some (.ref 0), some (.ref 65), some (.int i)], [(.ref 65)])) (w1 := w6) (lt_f rfl (Nat.le_of_ble_eq_true rfl)) rfl ?_
  refine aw_step (f1 := (536, [some (.ref (am_B + 1)), some (.ref 0), some (.ref 65), some (.int i)], [(.ref (am_B + 1)), (.ref 65)])) (w1 := w6) (lt_f rfl (Nat.le_of_ble_eq_true rfl)) rfl ?_
  refine aw_step (f1 := (537, [some (.ref (am_B + 1)), some (.ref 0), some (.ref 65), some (.int i)], [(.int i), (.ref (am_B + 1)), (.ref 65)])) (w1 := w6) (lt_f rfl (Nat.le_of_ble_eq_true rfl)) rfl ?_
  refine x_i (pc1 := 538) (ls1 := [some (.ref (am_B + 1)), some (.ref 0), some (.ref 65), some (.int i)]) (st1 := [(.int i), (.ref (am_B + 1)), (.ref 65)]) (lt_f rfl (Nat.le_of_ble_eq_true rfl)) rfl fun x7 e8 => ?_
  have e8t : x7.toInt = 1 := by rw [e8]; rfl
  refine x_i (pc1 := 539) (ls1 := [some (.ref (am_B + 1)), some (.ref 0), some (.ref 65), some (.int i)]) (st1 := [(.ref (am_B + 1)), (.ref 65)]) (lt_f rfl (Nat.le_of_ble_eq_true rfl)) rfl fun x9 e10 => ?_
  have e10 : x9 = i + x7 := e10
  have e10t : x9.toInt = i.toInt + x7.toInt := by rw [e10]; exact n_add (by omega) (by omega)
  refine x_ia 540 (lt_f rfl (Nat.le_of_ble_eq_true rfl)) rfl (by omega) (by omega) ?_
  rw [show x9.toInt = i.toInt + 1 by omega]
  show aw (some X) _ 193 _ (540, [some (.ref (am_B + 1)), some (.ref 0), some (.ref 65), some (.int i)], [(.int (sx X (i.toInt + 1))), (.ref 65)]) w6
  refine x_cv (z := 141) (p := 65) (as := [(.int (sx X (i.toInt + 1)))]) (st1 := []) (Hw6.inv) 543 (lt_f rfl (Nat.le_of_ble_eq_true rfl)) rfl rfl rfl rfl rfl rfl rfl (Nat.le_of_ble_eq_true rfl) (Nat.le_of_ble_eq_true rfl) ((tm_strides (sx X (i.toInt + 1)) Hw6).deep (by omega)) ?_
  rintro _ w12 ⟨⟨Hw12, w12l⟩, x11, rfl⟩
  refine ⟨w12l, ?_⟩
  show aw (some X) _ 193 _ (543, [some (.ref (am_B + 1)), some (.ref 0), some (.ref 65), some (.int i)], [(.int x11)]) w12
  refine aw_step (f1 := (544, [some (.ref (am_B + 1)), some (.ref 0), some (.ref 65), some (.int i)], [])) (w1 := w12) (lt_f rfl (Nat.le_of_ble_eq_true rfl)) rfl ?_
  refine aw_step (f1 := (1476, [some (.ref (am_B + 1)), some (.ref 0), some (.ref 65), some (.int i)], [])) (w1 := w12) (lt_f rfl (Nat.le_of_ble_eq_true rfl)) rfl ?_
  exact K w12 Hw12
set_option maxRecDepth 100000 in
theorem lk_13 {X : List Int32} {Q : Option Value → am_W → Prop} {w : am_W} {i : Int32} (h0 : 0 ≤ i.toInt) (h6 : i.toInt + 6 ≤ X.length) (hX : X.length ≤ 384) (H : TI w) (K : ∀ w1, TI w1 → aw (some X) 60 193 Q (1476, [some (.ref (am_B + 1)), some (.ref 0), some (.ref 65), some (.int i)], []) w1) : aw (some X) 60 193 Q (547, [some (.ref (am_B + 1)), some (.ref 0), some (.ref 65), some (.int i)], []) w := by
  refine aw_step (f1 := (548, [some (.ref (am_B + 1)), some (.ref 0), some (.ref 65), some (.int i)], [(.ref 0)])) (w1 := w) (lt_f rfl (Nat.le_of_ble_eq_true rfl)) rfl ?_
  refine aw_step (f1 := (549, [some (.ref (am_B + 1)), some (.ref 0), some (.ref 65), some (.int i)], [(.ref (am_B + 1)), (.ref 0)])) (w1 := w) (lt_f rfl (Nat.le_of_ble_eq_true rfl)) rfl ?_
  refine aw_step (f1 := (550, [some (.ref (am_B + 1)), some (.ref 0), some (.ref 65), some (.int i)], [(.int i), (.ref (am_B + 1)), (.ref 0)])) (w1 := w) (lt_f rfl (Nat.le_of_ble_eq_true rfl)) rfl ?_
  refine x_i (pc1 := 551) (ls1 := [some (.ref (am_B + 1)), some (.ref 0), some (.ref 65), some (.int i)]) (st1 := [(.int i), (.ref (am_B + 1)), (.ref 0)]) (lt_f rfl (Nat.le_of_ble_eq_true rfl)) rfl fun x1 e2 => ?_
  have e2t : x1.toInt = 1 := by rw [e2]; rfl
  refine x_i (pc1 := 552) (ls1 := [some (.ref (am_B + 1)), some (.ref 0), some (.ref 65), some (.int i)]) (st1 := [(.ref (am_B + 1)), (.ref 0)]) (lt_f rfl (Nat.le_of_ble_eq_true rfl)) rfl fun x3 e4 => ?_
  have e4 : x3 = i + x1 := e4
  have e4t : x3.toInt = i.toInt + x1.toInt := by rw [e4]; exact n_add (by omega) (by omega)
  refine x_ia 553 (lt_f rfl (Nat.le_of_ble_eq_true rfl)) rfl (by omega) (by omega) ?_
  rw [show x3.toInt = i.toInt + 1 by omega]
  show aw (some X) _ 193 _ (553, [some (.ref (am_B + 1)), some (.ref 0), some (.ref 65), some (.int i)], [(.int (sx X (i.toInt + 1))), (.ref 0)]) w
  refine aw_step (f1 := (554, [some (.ref (am_B + 1)), some (.ref 0), some (.ref 65), some (.int i)], [(.ref (am_B + 1)), (.int (sx X (i.toInt + 1))), (.ref 0)])) (w1 := w) (lt_f rfl (Nat.le_of_ble_eq_true rfl)) rfl ?_
  refine aw_step (f1 := (555, [some (.ref (am_B + 1)), some (.ref 0), some (.ref 65), some (.int i)], [(.int i), (.ref (am_B + 1)), (.int (sx X (i.toInt + 1))), (.ref 0)])) (w1 := w) (lt_f rfl (Nat.le_of_ble_eq_true rfl)) rfl ?_
  refine x_i (pc1 := 556) (ls1 := [some (.ref (am_B + 1)), some (.ref 0), some (.ref 65), some (.int i)]) (st1 := [(.int i), (.ref (am_B + 1)), (.int (sx X (i.toInt + 1))), (.ref 0)]) (lt_f rfl (Nat.le_of_ble_eq_true rfl)) rfl fun x5 e6 => ?_
  have e6t : x5.toInt = 2 := by rw [e6]; rfl
  refine x_i (pc1 := 557) (ls1 := [some (.ref (am_B + 1)), some (.ref 0), some (.ref 65), some (.int i)]) (st1 := [(.ref (am_B + 1)), (.int (sx X (i.toInt + 1))), (.ref 0)]) (lt_f rfl (Nat.le_of_ble_eq_true rfl)) rfl fun x7 e8 => ?_
  have e8 : x7 = i + x5 := e8
  have e8t : x7.toInt = i.toInt + x5.toInt := by rw [e8]; exact n_add (by omega) (by omega)
  refine x_ia 558 (lt_f rfl (Nat.le_of_ble_eq_true rfl)) rfl (by omega) (by omega) ?_
  rw [show x7.toInt = i.toInt + 2 by omega]
  show aw (some X) _ 193 _ (558, [some (.ref (am_B + 1)), some (.ref 0), some (.ref 65), some (.int i)], [(.int (sx X (i.toInt + 2))), (.int (sx X (i.toInt + 1))), (.ref 0)]) w
  refine aw_step (f1 := (559, [some (.ref (am_B + 1)), some (.ref 0), some (.ref 65), some (.int i)], [(.ref (am_B + 1)), (.int (sx X (i.toInt + 2))), (.int (sx X (i.toInt + 1))), (.ref 0)])) (w1 := w) (lt_f rfl (Nat.le_of_ble_eq_true rfl)) rfl ?_
  refine aw_step (f1 := (560, [some (.ref (am_B + 1)), some (.ref 0), some (.ref 65), some (.int i)], [(.int i), (.ref (am_B + 1)), (.int (sx X (i.toInt + 2))), (.int (sx X (i.toInt + 1))), (.ref 0)])) (w1 := w) (lt_f rfl (Nat.le_of_ble_eq_true rfl)) rfl ?_
  refine x_i (pc1 := 561) (ls1 := [some (.ref (am_B + 1)), some (.ref 0), some (.ref 65), some (.int i)]) (st1 := [(.int i), (.ref (am_B + 1)), (.int (sx X (i.toInt + 2))), (.int (sx X (i.toInt + 1))), (.ref 0)]) (lt_f rfl (Nat.le_of_ble_eq_true rfl)) rfl fun x9 e10 => ?_
  have e10t : x9.toInt = 3 := by rw [e10]; rfl
  refine x_i (pc1 := 562) (ls1 := [some (.ref (am_B + 1)), some (.ref 0), some (.ref 65), some (.int i)]) (st1 := [(.ref (am_B + 1)), (.int (sx X (i.toInt + 2))), (.int (sx X (i.toInt + 1))), (.ref 0)]) (lt_f rfl (Nat.le_of_ble_eq_true rfl)) rfl fun x11 e12 => ?_
  have e12 : x11 = i + x9 := e12
  have e12t : x11.toInt = i.toInt + x9.toInt := by rw [e12]; exact n_add (by omega) (by omega)
  refine x_ia 563 (lt_f rfl (Nat.le_of_ble_eq_true rfl)) rfl (by omega) (by omega) ?_
  rw [show x11.toInt = i.toInt + 3 by omega]
  show aw (some X) _ 193 _ (563, [some (.ref (am_B + 1)), some (.ref 0), some (.ref 65), some (.int i)], [(.int (sx X (i.toInt + 3))), (.int (sx X (i.toInt + 2))), (.int (sx X (i.toInt + 1))), (.ref 0)]) w
  refine aw_step (f1 := (564, [some (.ref (am_B + 1)), some (.ref 0), some (.ref 65), some (.int i)], [(.ref (am_B + 1)), (.int (sx X (i.toInt + 3))), (.int (sx X (i.toInt + 2))), (.int (sx X (i.toInt + 1))), (.ref 0)])) (w1 := w) (lt_f rfl (Nat.le_of_ble_eq_true rfl)) rfl ?_
  refine aw_step (f1 := (565, [some (.ref (am_B + 1)), some (.ref 0), some (.ref 65), some (.int i)], [(.int i), (.ref (am_B + 1)), (.int (sx X (i.toInt + 3))), (.int (sx X (i.toInt + 2))), (.int (sx X (i.toInt + 1))), (.ref 0)])) (w1 := w) (lt_f rfl (Nat.le_of_ble_eq_true rfl)) rfl ?_
  refine x_i (pc1 := 566) (ls1 := [some (.ref (am_B + 1)), some (.ref 0), some (.ref 65), some (.int i)]) (st1 := [(.int i), (.ref (am_B + 1)), (.int (sx X (i.toInt + 3))), (.int (sx X (i.toInt + 2))), (.int (sx X (i.toInt + 1))), (.ref 0)]) (lt_f rfl (Nat.le_of_ble_eq_true rfl)) rfl fun x13 e14 => ?_
  have e14t : x13.toInt = 4 := by rw [e14]; rfl
  refine x_i (pc1 := 567) (ls1 := [some (.ref (am_B + 1)), some (.ref 0), some (.ref 65), some (.int i)]) (st1 := [(.ref (am_B + 1)), (.int (sx X (i.toInt + 3))), (.int (sx X (i.toInt + 2))), (.int (sx X (i.toInt + 1))), (.ref 0)]) (lt_f rfl (Nat.le_of_ble_eq_true rfl)) rfl fun x15 e16 => ?_
  have e16 : x15 = i + x13 := e16
  have e16t : x15.toInt = i.toInt + x13.toInt := by rw [e16]; exact n_add (by omega) (by omega)
  refine x_ia 568 (lt_f rfl (Nat.le_of_ble_eq_true rfl)) rfl (by omega) (by omega) ?_
  rw [show x15.toInt = i.toInt + 4 by omega]
  show aw (some X) _ 193 _ (568, [some (.ref (am_B + 1)), some (.ref 0), some (.ref 65), some (.int i)], [(.int (sx X (i.toInt + 4))), (.int (sx X (i.toInt + 3))), (.int (sx X (i.toInt + 2))), (.int (sx X (i.toInt + 1))), (.ref 0)]) w
  refine x_cv (z := 73) (p := 0) (as := [(.int (sx X (i.toInt + 1))), (.int (sx X (i.toInt + 2))), (.int (sx X (i.toInt + 3))), (.int (sx X (i.toInt + 4)))]) (st1 := []) (H.inv) 571 (lt_f rfl (Nat.le_of_ble_eq_true rfl)) rfl rfl rfl rfl rfl rfl rfl (Nat.le_of_ble_eq_true rfl) (Nat.le_of_ble_eq_true rfl) ((tc_far (sx X (i.toInt + 1)) (sx X (i.toInt + 2)) (sx X (i.toInt + 3)) (sx X (i.toInt + 4)) H).deep (by omega)) ?_
  rintro _ w18 ⟨⟨Hw18, w18l⟩, x17, rfl⟩
  refine ⟨w18l, ?_⟩
  show aw (some X) _ 193 _ (571, [some (.ref (am_B + 1)), some (.ref 0), some (.ref 65), some (.int i)], [(.int x17)]) w18
  refine aw_step (f1 := (572, [some (.ref (am_B + 1)), some (.ref 0), some (.ref 65), some (.int i)], [])) (w1 := w18) (lt_f rfl (Nat.le_of_ble_eq_true rfl)) rfl ?_
  refine aw_step (f1 := (573, [some (.ref (am_B + 1)), some (.ref 0), some (.ref 65), some (.int i)], [(.ref 65)])) (w1 := w18) (lt_f rfl (Nat.le_of_ble_eq_true rfl)) rfl ?_
  refine aw_step (f1 := (574, [some (.ref (am_B + 1)), some (.ref 0), some (.ref 65), some (.int i)], [(.ref (am_B + 1)), (.ref 65)])) (w1 := w18) (lt_f rfl (Nat.le_of_ble_eq_true rfl)) rfl ?_
  refine aw_step (f1 := (575, [some (.ref (am_B + 1)), some (.ref 0), some (.ref 65), some (.int i)], [(.int i), (.ref (am_B + 1)), (.ref 65)])) (w1 := w18) (lt_f rfl (Nat.le_of_ble_eq_true rfl)) rfl ?_
  refine x_i (pc1 := 576) (ls1 := [some (.ref (am_B + 1)), some (.ref 0), some (.ref 65), some (.int i)]) (st1 := [(.int i), (.ref (am_B + 1)), (.ref 65)]) (lt_f rfl (Nat.le_of_ble_eq_true rfl)) rfl fun x19 e20 => ?_
  have e20t : x19.toInt = 1 := by rw [e20]; rfl
  refine x_i (pc1 := 577) (ls1 := [some (.ref (am_B + 1)), some (.ref 0), some (.ref 65), some (.int i)]) (st1 := [(.ref (am_B + 1)), (.ref 65)]) (lt_f rfl (Nat.le_of_ble_eq_true rfl)) rfl fun x21 e22 => ?_
  have e22 : x21 = i + x19 := e22
  have e22t : x21.toInt = i.toInt + x19.toInt := by rw [e22]; exact n_add (by omega) (by omega)
  refine x_ia 578 (lt_f rfl (Nat.le_of_ble_eq_true rfl)) rfl (by omega) (by omega) ?_
  rw [show x21.toInt = i.toInt + 1 by omega]
  show aw (some X) _ 193 _ (578, [some (.ref (am_B + 1)), some (.ref 0), some (.ref 65), some (.int i)], [(.int (sx X (i.toInt + 1))), (.ref 65)]) w18
  refine aw_step (f1 := (579, [some (.ref (am_B + 1)), some (.ref 0), some (.ref 65), some (.int i)], [(.ref (am_B + 1)), (.int (sx X (i.toInt + 1))), (.ref 65)])) (w1 := w18) (lt_f rfl (Nat.le_of_ble_eq_true rfl)) rfl ?_
  refine aw_step (f1 := (580, [some (.ref (am_B + 1)), some (.ref 0), some (.ref 65), some (.int i)], [(.int i), (.ref (am_B + 1)), (.int (sx X (i.toInt + 1))), (.ref 65)])) (w1 := w18) (lt_f rfl (Nat.le_of_ble_eq_true rfl)) rfl ?_
  refine x_i (pc1 := 581) (ls1 := [some (.ref (am_B + 1)), some (.ref 0), some (.ref 65), some (.int i)]) (st1 := [(.int i), (.ref (am_B + 1)), (.int (sx X (i.toInt + 1))), (.ref 65)]) (lt_f rfl (Nat.le_of_ble_eq_true rfl)) rfl fun x23 e24 => ?_
  have e24t : x23.toInt = 2 := by rw [e24]; rfl
  refine x_i (pc1 := 582) (ls1 := [some (.ref (am_B + 1)), some (.ref 0), some (.ref 65), some (.int i)]) (st1 := [(.ref (am_B + 1)), (.int (sx X (i.toInt + 1))), (.ref 65)]) (lt_f rfl (Nat.le_of_ble_eq_true rfl)) rfl fun x25 e26 => ?_
  have e26 : x25 = i + x23 := e26
  have e26t : x25.toInt = i.toInt + x23.toInt := by rw [e26]; exact n_add (by omega) (by omega)
  refine x_ia 583 (lt_f rfl (Nat.le_of_ble_eq_true rfl)) rfl (by omega) (by omega) ?_
  rw [show x25.toInt = i.toInt + 2 by omega]
  show aw (some X) _ 193 _ (583, [some (.ref (am_B + 1)), some (.ref 0), some (.ref 65), some (.int i)], [(.int (sx X (i.toInt + 2))), (.int (sx X (i.toInt + 1))), (.ref 65)]) w18
  refine aw_step (f1 := (584, [some (.ref (am_B + 1)), some (.ref 0), some (.ref 65), some (.int i)], [(.ref (am_B + 1)), (.int (sx X (i.toInt + 2))), (.int (sx X (i.toInt + 1))), (.ref 65)])) (w1 := w18) (lt_f rfl (Nat.le_of_ble_eq_true rfl)) rfl ?_
  refine aw_step (f1 := (585, [some (.ref (am_B + 1)), some (.ref 0), some (.ref 65), some (.int i)], [(.int i), (.ref (am_B + 1)), (.int (sx X (i.toInt + 2))), (.int (sx X (i.toInt + 1))), (.ref 65)])) (w1 := w18) (lt_f rfl (Nat.le_of_ble_eq_true rfl)) rfl ?_
  refine x_i (pc1 := 586) (ls1 := [some (.ref (am_B + 1)), some (.ref 0), some (.ref 65), some (.int i)]) (st1 := [(.int i), (.ref (am_B + 1)), (.int (sx X (i.toInt + 2))), (.int (sx X (i.toInt + 1))), (.ref 65)]) (lt_f rfl (Nat.le_of_ble_eq_true rfl)) rfl fun x27 e28 => ?_
  have e28t : x27.toInt = 3 := by rw [e28]; rfl
  refine x_i (pc1 := 587) (ls1 := [some (.ref (am_B + 1)), some (.ref 0), some (.ref 65), some (.int i)]) (st1 := [(.ref (am_B + 1)), (.int (sx X (i.toInt + 2))), (.int (sx X (i.toInt + 1))), (.ref 65)]) (lt_f rfl (Nat.le_of_ble_eq_true rfl)) rfl fun x29 e30 => ?_
  have e30 : x29 = i + x27 := e30
  have e30t : x29.toInt = i.toInt + x27.toInt := by rw [e30]; exact n_add (by omega) (by omega)
  refine x_ia 588 (lt_f rfl (Nat.le_of_ble_eq_true rfl)) rfl (by omega) (by omega) ?_
  rw [show x29.toInt = i.toInt + 3 by omega]
  show aw (some X) _ 193 _ (588, [some (.ref (am_B + 1)), some (.ref 0), some (.ref 65), some (.int i)], [(.int (sx X (i.toInt + 3))), (.int (sx X (i.toInt + 2))), (.int (sx X (i.toInt + 1))), (.ref 65)]) w18
  refine aw_step (f1 := (589, [some (.ref (am_B + 1)), some (.ref 0), some (.ref 65), some (.int i)], [(.ref (am_B + 1)), (.int (sx X (i.toInt + 3))), (.int (sx X (i.toInt + 2))), (.int (sx X (i.toInt + 1))), (.ref 65)])) (w1 := w18) (lt_f rfl (Nat.le_of_ble_eq_true rfl)) rfl ?_
  refine aw_step (f1 := (590, [some (.ref (am_B + 1)), some (.ref 0), some (.ref 65), some (.int i)], [(.int i), (.ref (am_B + 1)), (.int (sx X (i.toInt + 3))), (.int (sx X (i.toInt + 2))), (.int (sx X (i.toInt + 1))), (.ref 65)])) (w1 := w18) (lt_f rfl (Nat.le_of_ble_eq_true rfl)) rfl ?_
  refine x_i (pc1 := 591) (ls1 := [some (.ref (am_B + 1)), some (.ref 0), some (.ref 65), some (.int i)]) (st1 := [(.int i), (.ref (am_B + 1)), (.int (sx X (i.toInt + 3))), (.int (sx X (i.toInt + 2))), (.int (sx X (i.toInt + 1))), (.ref 65)]) (lt_f rfl (Nat.le_of_ble_eq_true rfl)) rfl fun x31 e32 => ?_
  have e32t : x31.toInt = 4 := by rw [e32]; rfl
  refine x_i (pc1 := 592) (ls1 := [some (.ref (am_B + 1)), some (.ref 0), some (.ref 65), some (.int i)]) (st1 := [(.ref (am_B + 1)), (.int (sx X (i.toInt + 3))), (.int (sx X (i.toInt + 2))), (.int (sx X (i.toInt + 1))), (.ref 65)]) (lt_f rfl (Nat.le_of_ble_eq_true rfl)) rfl fun x33 e34 => ?_
  have e34 : x33 = i + x31 := e34
  have e34t : x33.toInt = i.toInt + x31.toInt := by rw [e34]; exact n_add (by omega) (by omega)
  refine x_ia 593 (lt_f rfl (Nat.le_of_ble_eq_true rfl)) rfl (by omega) (by omega) ?_
  rw [show x33.toInt = i.toInt + 4 by omega]
  show aw (some X) _ 193 _ (593, [some (.ref (am_B + 1)), some (.ref 0), some (.ref 65), some (.int i)], [(.int (sx X (i.toInt + 4))), (.int (sx X (i.toInt + 3))), (.int (sx X (i.toInt + 2))), (.int (sx X (i.toInt + 1))), (.ref 65)]) w18
  refine x_cv (z := 144) (p := 65) (as := [(.int (sx X (i.toInt + 1))), (.int (sx X (i.toInt + 2))), (.int (sx X (i.toInt + 3))), (.int (sx X (i.toInt + 4)))]) (st1 := []) (Hw18.inv) 596 (lt_f rfl (Nat.le_of_ble_eq_true rfl)) rfl rfl rfl rfl rfl rfl rfl (Nat.le_of_ble_eq_true rfl) (Nat.le_of_ble_eq_true rfl) ((tm_far (sx X (i.toInt + 1)) (sx X (i.toInt + 2)) (sx X (i.toInt + 3)) (sx X (i.toInt + 4)) Hw18).deep (by omega)) ?_
  rintro _ w36 ⟨⟨Hw36, w36l⟩, x35, rfl⟩
  refine ⟨w36l, ?_⟩
  show aw (some X) _ 193 _ (596, [some (.ref (am_B + 1)), some (.ref 0), some (.ref 65), some (.int i)], [(.int x35)]) w36
  refine aw_step (f1 := (597, [some (.ref (am_B + 1)), some (.ref 0), some (.ref 65), some (.int i)], [])) (w1 := w36) (lt_f rfl (Nat.le_of_ble_eq_true rfl)) rfl ?_
  refine aw_step (f1 := (1476, [some (.ref (am_B + 1)), some (.ref 0), some (.ref 65), some (.int i)], [])) (w1 := w36) (lt_f rfl (Nat.le_of_ble_eq_true rfl)) rfl ?_
  exact K w36 Hw36
set_option maxRecDepth 100000 in
theorem lk_14 {X : List Int32} {Q : Option Value → am_W → Prop} {w : am_W} {i : Int32} (h0 : 0 ≤ i.toInt) (h6 : i.toInt + 6 ≤ X.length) (hX : X.length ≤ 384) (H : TI w) (K : ∀ w1, TI w1 → aw (some X) 60 193 Q (1476, [some (.ref (am_B + 1)), some (.ref 0), some (.ref 65), some (.int i)], []) w1) : aw (some X) 60 193 Q (600, [some (.ref (am_B + 1)), some (.ref 0), some (.ref 65), some (.int i)], []) w := by
  refine aw_step (f1 := (601, [some (.ref (am_B + 1)), some (.ref 0), some (.ref 65), some (.int i)], [(.ref 0)])) (w1 := w) (lt_f rfl (Nat.le_of_ble_eq_true rfl)) rfl ?_
  refine aw_step (f1 := (602, [some (.ref (am_B + 1)), some (.ref 0), some (.ref 65), some (.int i)], [(.ref (am_B + 1)), (.ref 0)])) (w1 := w) (lt_f rfl (Nat.le_of_ble_eq_true rfl)) rfl ?_
  refine aw_step (f1 := (603, [some (.ref (am_B + 1)), some (.ref 0), some (.ref 65), some (.int i)], [(.int i), (.ref (am_B + 1)), (.ref 0)])) (w1 := w) (lt_f rfl (Nat.le_of_ble_eq_true rfl)) rfl ?_
  refine x_i (pc1 := 604) (ls1 := [some (.ref (am_B + 1)), some (.ref 0), some (.ref 65), some (.int i)]) (st1 := [(.int i), (.ref (am_B + 1)), (.ref 0)]) (lt_f rfl (Nat.le_of_ble_eq_true rfl)) rfl fun x1 e2 => ?_
  have e2t : x1.toInt = 1 := by rw [e2]; rfl
  refine x_i (pc1 := 605) (ls1 := [some (.ref (am_B + 1)), some (.ref 0), some (.ref 65), some (.int i)]) (st1 := [(.ref (am_B + 1)), (.ref 0)]) (lt_f rfl (Nat.le_of_ble_eq_true rfl)) rfl fun x3 e4 => ?_
  have e4 : x3 = i + x1 := e4
  have e4t : x3.toInt = i.toInt + x1.toInt := by rw [e4]; exact n_add (by omega) (by omega)
  refine x_ia 606 (lt_f rfl (Nat.le_of_ble_eq_true rfl)) rfl (by omega) (by omega) ?_
  rw [show x3.toInt = i.toInt + 1 by omega]
  show aw (some X) _ 193 _ (606, [some (.ref (am_B + 1)), some (.ref 0), some (.ref 65), some (.int i)], [(.int (sx X (i.toInt + 1))), (.ref 0)]) w
  refine aw_step (f1 := (607, [some (.ref (am_B + 1)), some (.ref 0), some (.ref 65), some (.int i)], [(.ref (am_B + 1)), (.int (sx X (i.toInt + 1))), (.ref 0)])) (w1 := w) (lt_f rfl (Nat.le_of_ble_eq_true rfl)) rfl ?_
  refine aw_step (f1 := (608, [some (.ref (am_B + 1)), some (.ref 0), some (.ref 65), some (.int i)], [(.int i), (.ref (am_B + 1)), (.int (sx X (i.toInt + 1))), (.ref 0)])) (w1 := w) (lt_f rfl (Nat.le_of_ble_eq_true rfl)) rfl ?_
  refine x_i (pc1 := 609) (ls1 := [some (.ref (am_B + 1)), some (.ref 0), some (.ref 65), some (.int i)]) (st1 := [(.int i), (.ref (am_B + 1)), (.int (sx X (i.toInt + 1))), (.ref 0)]) (lt_f rfl (Nat.le_of_ble_eq_true rfl)) rfl fun x5 e6 => ?_
  have e6t : x5.toInt = 2 := by rw [e6]; rfl
  refine x_i (pc1 := 610) (ls1 := [some (.ref (am_B + 1)), some (.ref 0), some (.ref 65), some (.int i)]) (st1 := [(.ref (am_B + 1)), (.int (sx X (i.toInt + 1))), (.ref 0)]) (lt_f rfl (Nat.le_of_ble_eq_true rfl)) rfl fun x7 e8 => ?_
  have e8 : x7 = i + x5 := e8
  have e8t : x7.toInt = i.toInt + x5.toInt := by rw [e8]; exact n_add (by omega) (by omega)
  refine x_ia 611 (lt_f rfl (Nat.le_of_ble_eq_true rfl)) rfl (by omega) (by omega) ?_
  rw [show x7.toInt = i.toInt + 2 by omega]
  show aw (some X) _ 193 _ (611, [some (.ref (am_B + 1)), some (.ref 0), some (.ref 65), some (.int i)], [(.int (sx X (i.toInt + 2))), (.int (sx X (i.toInt + 1))), (.ref 0)]) w
  refine x_cv (z := 74) (p := 0) (as := [(.int (sx X (i.toInt + 1))), (.int (sx X (i.toInt + 2)))]) (st1 := []) (H.inv) 614 (lt_f rfl (Nat.le_of_ble_eq_true rfl)) rfl rfl rfl rfl rfl rfl rfl (Nat.le_of_ble_eq_true rfl) (Nat.le_of_ble_eq_true rfl) ((tc_reached (sx X (i.toInt + 1)) (sx X (i.toInt + 2)) H).deep (by omega)) ?_
  rintro _ w10 ⟨⟨Hw10, w10l⟩, y9, rfl⟩
  refine ⟨w10l, ?_⟩
  show aw (some X) _ 193 _ (614, [some (.ref (am_B + 1)), some (.ref 0), some (.ref 65), some (.int i)], [(.long y9)]) w10
  refine aw_step (f1 := (615, [some (.ref (am_B + 1)), some (.ref 0), some (.ref 65), some (.int i)], [])) (w1 := w10) (lt_f rfl (Nat.le_of_ble_eq_true rfl)) rfl ?_
  refine aw_step (f1 := (616, [some (.ref (am_B + 1)), some (.ref 0), some (.ref 65), some (.int i)], [(.ref 65)])) (w1 := w10) (lt_f rfl (Nat.le_of_ble_eq_true rfl)) rfl ?_
  refine aw_step (f1 := (617, [some (.ref (am_B + 1)), some (.ref 0), some (.ref 65), some (.int i)], [(.ref (am_B + 1)), (.ref 65)])) (w1 := w10) (lt_f rfl (Nat.le_of_ble_eq_true rfl)) rfl ?_
  refine aw_step (f1 := (618, [some (.ref (am_B + 1)), some (.ref 0), some (.ref 65), some (.int i)], [(.int i), (.ref (am_B + 1)), (.ref 65)])) (w1 := w10) (lt_f rfl (Nat.le_of_ble_eq_true rfl)) rfl ?_
  refine x_i (pc1 := 619) (ls1 := [some (.ref (am_B + 1)), some (.ref 0), some (.ref 65), some (.int i)]) (st1 := [(.int i), (.ref (am_B + 1)), (.ref 65)]) (lt_f rfl (Nat.le_of_ble_eq_true rfl)) rfl fun x11 e12 => ?_
  have e12t : x11.toInt = 1 := by rw [e12]; rfl
  refine x_i (pc1 := 620) (ls1 := [some (.ref (am_B + 1)), some (.ref 0), some (.ref 65), some (.int i)]) (st1 := [(.ref (am_B + 1)), (.ref 65)]) (lt_f rfl (Nat.le_of_ble_eq_true rfl)) rfl fun x13 e14 => ?_
  have e14 : x13 = i + x11 := e14
  have e14t : x13.toInt = i.toInt + x11.toInt := by rw [e14]; exact n_add (by omega) (by omega)
  refine x_ia 621 (lt_f rfl (Nat.le_of_ble_eq_true rfl)) rfl (by omega) (by omega) ?_
  rw [show x13.toInt = i.toInt + 1 by omega]
  show aw (some X) _ 193 _ (621, [some (.ref (am_B + 1)), some (.ref 0), some (.ref 65), some (.int i)], [(.int (sx X (i.toInt + 1))), (.ref 65)]) w10
  refine aw_step (f1 := (622, [some (.ref (am_B + 1)), some (.ref 0), some (.ref 65), some (.int i)], [(.ref (am_B + 1)), (.int (sx X (i.toInt + 1))), (.ref 65)])) (w1 := w10) (lt_f rfl (Nat.le_of_ble_eq_true rfl)) rfl ?_
  refine aw_step (f1 := (623, [some (.ref (am_B + 1)), some (.ref 0), some (.ref 65), some (.int i)], [(.int i), (.ref (am_B + 1)), (.int (sx X (i.toInt + 1))), (.ref 65)])) (w1 := w10) (lt_f rfl (Nat.le_of_ble_eq_true rfl)) rfl ?_
  refine x_i (pc1 := 624) (ls1 := [some (.ref (am_B + 1)), some (.ref 0), some (.ref 65), some (.int i)]) (st1 := [(.int i), (.ref (am_B + 1)), (.int (sx X (i.toInt + 1))), (.ref 65)]) (lt_f rfl (Nat.le_of_ble_eq_true rfl)) rfl fun x15 e16 => ?_
  have e16t : x15.toInt = 2 := by rw [e16]; rfl
  refine x_i (pc1 := 625) (ls1 := [some (.ref (am_B + 1)), some (.ref 0), some (.ref 65), some (.int i)]) (st1 := [(.ref (am_B + 1)), (.int (sx X (i.toInt + 1))), (.ref 65)]) (lt_f rfl (Nat.le_of_ble_eq_true rfl)) rfl fun x17 e18 => ?_
  have e18 : x17 = i + x15 := e18
  have e18t : x17.toInt = i.toInt + x15.toInt := by rw [e18]; exact n_add (by omega) (by omega)
  refine x_ia 626 (lt_f rfl (Nat.le_of_ble_eq_true rfl)) rfl (by omega) (by omega) ?_
  rw [show x17.toInt = i.toInt + 2 by omega]
  show aw (some X) _ 193 _ (626, [some (.ref (am_B + 1)), some (.ref 0), some (.ref 65), some (.int i)], [(.int (sx X (i.toInt + 2))), (.int (sx X (i.toInt + 1))), (.ref 65)]) w10
  refine x_cv (z := 145) (p := 65) (as := [(.int (sx X (i.toInt + 1))), (.int (sx X (i.toInt + 2)))]) (st1 := []) (Hw10.inv) 629 (lt_f rfl (Nat.le_of_ble_eq_true rfl)) rfl rfl rfl rfl rfl rfl rfl (Nat.le_of_ble_eq_true rfl) (Nat.le_of_ble_eq_true rfl) ((tm_reached (sx X (i.toInt + 1)) (sx X (i.toInt + 2)) Hw10).deep (by omega)) ?_
  rintro _ w20 ⟨⟨Hw20, w20l⟩, y19, rfl⟩
  refine ⟨w20l, ?_⟩
  show aw (some X) _ 193 _ (629, [some (.ref (am_B + 1)), some (.ref 0), some (.ref 65), some (.int i)], [(.long y19)]) w20
  refine aw_step (f1 := (630, [some (.ref (am_B + 1)), some (.ref 0), some (.ref 65), some (.int i)], [])) (w1 := w20) (lt_f rfl (Nat.le_of_ble_eq_true rfl)) rfl ?_
  refine aw_step (f1 := (1476, [some (.ref (am_B + 1)), some (.ref 0), some (.ref 65), some (.int i)], [])) (w1 := w20) (lt_f rfl (Nat.le_of_ble_eq_true rfl)) rfl ?_
  exact K w20 Hw20
set_option maxRecDepth 100000 in
theorem lk_15 {X : List Int32} {Q : Option Value → am_W → Prop} {w : am_W} {i : Int32} (h0 : 0 ≤ i.toInt) (h6 : i.toInt + 6 ≤ X.length) (hX : X.length ≤ 384) (H : TI w) (K : ∀ w1, TI w1 → aw (some X) 60 193 Q (1476, [some (.ref (am_B + 1)), some (.ref 0), some (.ref 65), some (.int i)], []) w1) : aw (some X) 60 193 Q (633, [some (.ref (am_B + 1)), some (.ref 0), some (.ref 65), some (.int i)], []) w := by
  refine aw_step (f1 := (634, [some (.ref (am_B + 1)), some (.ref 0), some (.ref 65), some (.int i)], [(.ref 0)])) (w1 := w) (lt_f rfl (Nat.le_of_ble_eq_true rfl)) rfl ?_
  refine aw_step (f1 := (635, [some (.ref (am_B + 1)), some (.ref 0), some (.ref 65), some (.int i)], [(.ref (am_B + 1)), (.ref 0)])) (w1 := w) (lt_f rfl (Nat.le_of_ble_eq_true rfl)) rfl ?_
  refine aw_step (f1 := (636, [some (.ref (am_B + 1)), some (.ref 0), some (.ref 65), some (.int i)], [(.int i), (.ref (am_B + 1)), (.ref 0)])) (w1 := w) (lt_f rfl (Nat.le_of_ble_eq_true rfl)) rfl ?_
  refine x_i (pc1 := 637) (ls1 := [some (.ref (am_B + 1)), some (.ref 0), some (.ref 65), some (.int i)]) (st1 := [(.int i), (.ref (am_B + 1)), (.ref 0)]) (lt_f rfl (Nat.le_of_ble_eq_true rfl)) rfl fun x1 e2 => ?_
  have e2t : x1.toInt = 1 := by rw [e2]; rfl
  refine x_i (pc1 := 638) (ls1 := [some (.ref (am_B + 1)), some (.ref 0), some (.ref 65), some (.int i)]) (st1 := [(.ref (am_B + 1)), (.ref 0)]) (lt_f rfl (Nat.le_of_ble_eq_true rfl)) rfl fun x3 e4 => ?_
  have e4 : x3 = i + x1 := e4
  have e4t : x3.toInt = i.toInt + x1.toInt := by rw [e4]; exact n_add (by omega) (by omega)
  refine x_ia 639 (lt_f rfl (Nat.le_of_ble_eq_true rfl)) rfl (by omega) (by omega) ?_
  rw [show x3.toInt = i.toInt + 1 by omega]
  show aw (some X) _ 193 _ (639, [some (.ref (am_B + 1)), some (.ref 0), some (.ref 65), some (.int i)], [(.int (sx X (i.toInt + 1))), (.ref 0)]) w
  refine aw_step (f1 := (640, [some (.ref (am_B + 1)), some (.ref 0), some (.ref 65), some (.int i)], [(.ref (am_B + 1)), (.int (sx X (i.toInt + 1))), (.ref 0)])) (w1 := w) (lt_f rfl (Nat.le_of_ble_eq_true rfl)) rfl ?_
  refine aw_step (f1 := (641, [some (.ref (am_B + 1)), some (.ref 0), some (.ref 65), some (.int i)], [(.int i), (.ref (am_B + 1)), (.int (sx X (i.toInt + 1))), (.ref 0)])) (w1 := w) (lt_f rfl (Nat.le_of_ble_eq_true rfl)) rfl ?_
  refine x_i (pc1 := 642) (ls1 := [some (.ref (am_B + 1)), some (.ref 0), some (.ref 65), some (.int i)]) (st1 := [(.int i), (.ref (am_B + 1)), (.int (sx X (i.toInt + 1))), (.ref 0)]) (lt_f rfl (Nat.le_of_ble_eq_true rfl)) rfl fun x5 e6 => ?_
  have e6t : x5.toInt = 2 := by rw [e6]; rfl
  refine x_i (pc1 := 643) (ls1 := [some (.ref (am_B + 1)), some (.ref 0), some (.ref 65), some (.int i)]) (st1 := [(.ref (am_B + 1)), (.int (sx X (i.toInt + 1))), (.ref 0)]) (lt_f rfl (Nat.le_of_ble_eq_true rfl)) rfl fun x7 e8 => ?_
  have e8 : x7 = i + x5 := e8
  have e8t : x7.toInt = i.toInt + x5.toInt := by rw [e8]; exact n_add (by omega) (by omega)
  refine x_ia 644 (lt_f rfl (Nat.le_of_ble_eq_true rfl)) rfl (by omega) (by omega) ?_
  rw [show x7.toInt = i.toInt + 2 by omega]
  show aw (some X) _ 193 _ (644, [some (.ref (am_B + 1)), some (.ref 0), some (.ref 65), some (.int i)], [(.int (sx X (i.toInt + 2))), (.int (sx X (i.toInt + 1))), (.ref 0)]) w
  refine aw_step (f1 := (645, [some (.ref (am_B + 1)), some (.ref 0), some (.ref 65), some (.int i)], [(.ref (am_B + 1)), (.int (sx X (i.toInt + 2))), (.int (sx X (i.toInt + 1))), (.ref 0)])) (w1 := w) (lt_f rfl (Nat.le_of_ble_eq_true rfl)) rfl ?_
  refine aw_step (f1 := (646, [some (.ref (am_B + 1)), some (.ref 0), some (.ref 65), some (.int i)], [(.int i), (.ref (am_B + 1)), (.int (sx X (i.toInt + 2))), (.int (sx X (i.toInt + 1))), (.ref 0)])) (w1 := w) (lt_f rfl (Nat.le_of_ble_eq_true rfl)) rfl ?_
  refine x_i (pc1 := 647) (ls1 := [some (.ref (am_B + 1)), some (.ref 0), some (.ref 65), some (.int i)]) (st1 := [(.int i), (.ref (am_B + 1)), (.int (sx X (i.toInt + 2))), (.int (sx X (i.toInt + 1))), (.ref 0)]) (lt_f rfl (Nat.le_of_ble_eq_true rfl)) rfl fun x9 e10 => ?_
  have e10t : x9.toInt = 3 := by rw [e10]; rfl
  refine x_i (pc1 := 648) (ls1 := [some (.ref (am_B + 1)), some (.ref 0), some (.ref 65), some (.int i)]) (st1 := [(.ref (am_B + 1)), (.int (sx X (i.toInt + 2))), (.int (sx X (i.toInt + 1))), (.ref 0)]) (lt_f rfl (Nat.le_of_ble_eq_true rfl)) rfl fun x11 e12 => ?_
  have e12 : x11 = i + x9 := e12
  have e12t : x11.toInt = i.toInt + x9.toInt := by rw [e12]; exact n_add (by omega) (by omega)
  refine x_ia 649 (lt_f rfl (Nat.le_of_ble_eq_true rfl)) rfl (by omega) (by omega) ?_
  rw [show x11.toInt = i.toInt + 3 by omega]
  show aw (some X) _ 193 _ (649, [some (.ref (am_B + 1)), some (.ref 0), some (.ref 65), some (.int i)], [(.int (sx X (i.toInt + 3))), (.int (sx X (i.toInt + 2))), (.int (sx X (i.toInt + 1))), (.ref 0)]) w
  refine x_cv (z := 75) (p := 0) (as := [(.int (sx X (i.toInt + 1))), (.int (sx X (i.toInt + 2))), (.int (sx X (i.toInt + 3)))]) (st1 := []) (H.inv) 652 (lt_f rfl (Nat.le_of_ble_eq_true rfl)) rfl rfl rfl rfl rfl rfl rfl (Nat.le_of_ble_eq_true rfl) (Nat.le_of_ble_eq_true rfl) ((tc_worn (sx X (i.toInt + 1)) (sx X (i.toInt + 2)) (sx X (i.toInt + 3)) H).deep (by omega)) ?_
  rintro _ w14 ⟨⟨Hw14, w14l⟩, x13, rfl⟩
  refine ⟨w14l, ?_⟩
  show aw (some X) _ 193 _ (652, [some (.ref (am_B + 1)), some (.ref 0), some (.ref 65), some (.int i)], [(.int x13)]) w14
  refine aw_step (f1 := (653, [some (.ref (am_B + 1)), some (.ref 0), some (.ref 65), some (.int i)], [])) (w1 := w14) (lt_f rfl (Nat.le_of_ble_eq_true rfl)) rfl ?_
  refine aw_step (f1 := (654, [some (.ref (am_B + 1)), some (.ref 0), some (.ref 65), some (.int i)], [(.ref 65)])) (w1 := w14) (lt_f rfl (Nat.le_of_ble_eq_true rfl)) rfl ?_
  refine aw_step (f1 := (655, [some (.ref (am_B + 1)), some (.ref 0), some (.ref 65), some (.int i)], [(.ref (am_B + 1)), (.ref 65)])) (w1 := w14) (lt_f rfl (Nat.le_of_ble_eq_true rfl)) rfl ?_
  refine aw_step (f1 := (656, [some (.ref (am_B + 1)), some (.ref 0), some (.ref 65), some (.int i)], [(.int i), (.ref (am_B + 1)), (.ref 65)])) (w1 := w14) (lt_f rfl (Nat.le_of_ble_eq_true rfl)) rfl ?_
  refine x_i (pc1 := 657) (ls1 := [some (.ref (am_B + 1)), some (.ref 0), some (.ref 65), some (.int i)]) (st1 := [(.int i), (.ref (am_B + 1)), (.ref 65)]) (lt_f rfl (Nat.le_of_ble_eq_true rfl)) rfl fun x15 e16 => ?_
  have e16t : x15.toInt = 1 := by rw [e16]; rfl
  refine x_i (pc1 := 658) (ls1 := [some (.ref (am_B + 1)), some (.ref 0), some (.ref 65), some (.int i)]) (st1 := [(.ref (am_B + 1)), (.ref 65)]) (lt_f rfl (Nat.le_of_ble_eq_true rfl)) rfl fun x17 e18 => ?_
  have e18 : x17 = i + x15 := e18
  have e18t : x17.toInt = i.toInt + x15.toInt := by rw [e18]; exact n_add (by omega) (by omega)
  refine x_ia 659 (lt_f rfl (Nat.le_of_ble_eq_true rfl)) rfl (by omega) (by omega) ?_
  rw [show x17.toInt = i.toInt + 1 by omega]
  show aw (some X) _ 193 _ (659, [some (.ref (am_B + 1)), some (.ref 0), some (.ref 65), some (.int i)], [(.int (sx X (i.toInt + 1))), (.ref 65)]) w14
  refine aw_step (f1 := (660, [some (.ref (am_B + 1)), some (.ref 0), some (.ref 65), some (.int i)], [(.ref (am_B + 1)), (.int (sx X (i.toInt + 1))), (.ref 65)])) (w1 := w14) (lt_f rfl (Nat.le_of_ble_eq_true rfl)) rfl ?_
  refine aw_step (f1 := (661, [some (.ref (am_B + 1)), some (.ref 0), some (.ref 65), some (.int i)], [(.int i), (.ref (am_B + 1)), (.int (sx X (i.toInt + 1))), (.ref 65)])) (w1 := w14) (lt_f rfl (Nat.le_of_ble_eq_true rfl)) rfl ?_
  refine x_i (pc1 := 662) (ls1 := [some (.ref (am_B + 1)), some (.ref 0), some (.ref 65), some (.int i)]) (st1 := [(.int i), (.ref (am_B + 1)), (.int (sx X (i.toInt + 1))), (.ref 65)]) (lt_f rfl (Nat.le_of_ble_eq_true rfl)) rfl fun x19 e20 => ?_
  have e20t : x19.toInt = 2 := by rw [e20]; rfl
  refine x_i (pc1 := 663) (ls1 := [some (.ref (am_B + 1)), some (.ref 0), some (.ref 65), some (.int i)]) (st1 := [(.ref (am_B + 1)), (.int (sx X (i.toInt + 1))), (.ref 65)]) (lt_f rfl (Nat.le_of_ble_eq_true rfl)) rfl fun x21 e22 => ?_
  have e22 : x21 = i + x19 := e22
  have e22t : x21.toInt = i.toInt + x19.toInt := by rw [e22]; exact n_add (by omega) (by omega)
  refine x_ia 664 (lt_f rfl (Nat.le_of_ble_eq_true rfl)) rfl (by omega) (by omega) ?_
  rw [show x21.toInt = i.toInt + 2 by omega]
  show aw (some X) _ 193 _ (664, [some (.ref (am_B + 1)), some (.ref 0), some (.ref 65), some (.int i)], [(.int (sx X (i.toInt + 2))), (.int (sx X (i.toInt + 1))), (.ref 65)]) w14
  refine aw_step (f1 := (665, [some (.ref (am_B + 1)), some (.ref 0), some (.ref 65), some (.int i)], [(.ref (am_B + 1)), (.int (sx X (i.toInt + 2))), (.int (sx X (i.toInt + 1))), (.ref 65)])) (w1 := w14) (lt_f rfl (Nat.le_of_ble_eq_true rfl)) rfl ?_
  refine aw_step (f1 := (666, [some (.ref (am_B + 1)), some (.ref 0), some (.ref 65), some (.int i)], [(.int i), (.ref (am_B + 1)), (.int (sx X (i.toInt + 2))), (.int (sx X (i.toInt + 1))), (.ref 65)])) (w1 := w14) (lt_f rfl (Nat.le_of_ble_eq_true rfl)) rfl ?_
  refine x_i (pc1 := 667) (ls1 := [some (.ref (am_B + 1)), some (.ref 0), some (.ref 65), some (.int i)]) (st1 := [(.int i), (.ref (am_B + 1)), (.int (sx X (i.toInt + 2))), (.int (sx X (i.toInt + 1))), (.ref 65)]) (lt_f rfl (Nat.le_of_ble_eq_true rfl)) rfl fun x23 e24 => ?_
  have e24t : x23.toInt = 3 := by rw [e24]; rfl
  refine x_i (pc1 := 668) (ls1 := [some (.ref (am_B + 1)), some (.ref 0), some (.ref 65), some (.int i)]) (st1 := [(.ref (am_B + 1)), (.int (sx X (i.toInt + 2))), (.int (sx X (i.toInt + 1))), (.ref 65)]) (lt_f rfl (Nat.le_of_ble_eq_true rfl)) rfl fun x25 e26 => ?_
  have e26 : x25 = i + x23 := e26
  have e26t : x25.toInt = i.toInt + x23.toInt := by rw [e26]; exact n_add (by omega) (by omega)
  refine x_ia 669 (lt_f rfl (Nat.le_of_ble_eq_true rfl)) rfl (by omega) (by omega) ?_
  rw [show x25.toInt = i.toInt + 3 by omega]
  show aw (some X) _ 193 _ (669, [some (.ref (am_B + 1)), some (.ref 0), some (.ref 65), some (.int i)], [(.int (sx X (i.toInt + 3))), (.int (sx X (i.toInt + 2))), (.int (sx X (i.toInt + 1))), (.ref 65)]) w14
  refine x_cv (z := 148) (p := 65) (as := [(.int (sx X (i.toInt + 1))), (.int (sx X (i.toInt + 2))), (.int (sx X (i.toInt + 3)))]) (st1 := []) (Hw14.inv) 672 (lt_f rfl (Nat.le_of_ble_eq_true rfl)) rfl rfl rfl rfl rfl rfl rfl (Nat.le_of_ble_eq_true rfl) (Nat.le_of_ble_eq_true rfl) ((tm_worn (sx X (i.toInt + 1)) (sx X (i.toInt + 2)) (sx X (i.toInt + 3)) Hw14).deep (by omega)) ?_
  rintro _ w28 ⟨⟨Hw28, w28l⟩, x27, rfl⟩
  refine ⟨w28l, ?_⟩
  show aw (some X) _ 193 _ (672, [some (.ref (am_B + 1)), some (.ref 0), some (.ref 65), some (.int i)], [(.int x27)]) w28
  refine aw_step (f1 := (673, [some (.ref (am_B + 1)), some (.ref 0), some (.ref 65), some (.int i)], [])) (w1 := w28) (lt_f rfl (Nat.le_of_ble_eq_true rfl)) rfl ?_
  refine aw_step (f1 := (1476, [some (.ref (am_B + 1)), some (.ref 0), some (.ref 65), some (.int i)], [])) (w1 := w28) (lt_f rfl (Nat.le_of_ble_eq_true rfl)) rfl ?_
  exact K w28 Hw28
set_option maxRecDepth 100000 in
theorem lk_16 {X : List Int32} {Q : Option Value → am_W → Prop} {w : am_W} {i : Int32} (h0 : 0 ≤ i.toInt) (h6 : i.toInt + 6 ≤ X.length) (hX : X.length ≤ 384) (H : TI w) (K : ∀ w1, TI w1 → aw (some X) 60 193 Q (1476, [some (.ref (am_B + 1)), some (.ref 0), some (.ref 65), some (.int i)], []) w1) : aw (some X) 60 193 Q (676, [some (.ref (am_B + 1)), some (.ref 0), some (.ref 65), some (.int i)], []) w := by
  refine aw_step (f1 := (677, [some (.ref (am_B + 1)), some (.ref 0), some (.ref 65), some (.int i)], [(.ref 0)])) (w1 := w) (lt_f rfl (Nat.le_of_ble_eq_true rfl)) rfl ?_
  refine aw_step (f1 := (678, [some (.ref (am_B + 1)), some (.ref 0), some (.ref 65), some (.int i)], [(.ref (am_B + 1)), (.ref 0)])) (w1 := w) (lt_f rfl (Nat.le_of_ble_eq_true rfl)) rfl ?_
  refine aw_step (f1 := (679, [some (.ref (am_B + 1)), some (.ref 0), some (.ref 65), some (.int i)], [(.int i), (.ref (am_B + 1)), (.ref 0)])) (w1 := w) (lt_f rfl (Nat.le_of_ble_eq_true rfl)) rfl ?_
  refine x_i (pc1 := 680) (ls1 := [some (.ref (am_B + 1)), some (.ref 0), some (.ref 65), some (.int i)]) (st1 := [(.int i), (.ref (am_B + 1)), (.ref 0)]) (lt_f rfl (Nat.le_of_ble_eq_true rfl)) rfl fun x1 e2 => ?_
  have e2t : x1.toInt = 1 := by rw [e2]; rfl
  refine x_i (pc1 := 681) (ls1 := [some (.ref (am_B + 1)), some (.ref 0), some (.ref 65), some (.int i)]) (st1 := [(.ref (am_B + 1)), (.ref 0)]) (lt_f rfl (Nat.le_of_ble_eq_true rfl)) rfl fun x3 e4 => ?_
  have e4 : x3 = i + x1 := e4
  have e4t : x3.toInt = i.toInt + x1.toInt := by rw [e4]; exact n_add (by omega) (by omega)
  refine x_ia 682 (lt_f rfl (Nat.le_of_ble_eq_true rfl)) rfl (by omega) (by omega) ?_
  rw [show x3.toInt = i.toInt + 1 by omega]
  show aw (some X) _ 193 _ (682, [some (.ref (am_B + 1)), some (.ref 0), some (.ref 65), some (.int i)], [(.int (sx X (i.toInt + 1))), (.ref 0)]) w
  refine aw_step (f1 := (683, [some (.ref (am_B + 1)), some (.ref 0), some (.ref 65), some (.int i)], [(.ref (am_B + 1)), (.int (sx X (i.toInt + 1))), (.ref 0)])) (w1 := w) (lt_f rfl (Nat.le_of_ble_eq_true rfl)) rfl ?_
  refine aw_step (f1 := (684, [some (.ref (am_B + 1)), some (.ref 0), some (.ref 65), some (.int i)], [(.int i), (.ref (am_B + 1)), (.int (sx X (i.toInt + 1))), (.ref 0)])) (w1 := w) (lt_f rfl (Nat.le_of_ble_eq_true rfl)) rfl ?_
  refine x_i (pc1 := 685) (ls1 := [some (.ref (am_B + 1)), some (.ref 0), some (.ref 65), some (.int i)]) (st1 := [(.int i), (.ref (am_B + 1)), (.int (sx X (i.toInt + 1))), (.ref 0)]) (lt_f rfl (Nat.le_of_ble_eq_true rfl)) rfl fun x5 e6 => ?_
  have e6t : x5.toInt = 2 := by rw [e6]; rfl
  refine x_i (pc1 := 686) (ls1 := [some (.ref (am_B + 1)), some (.ref 0), some (.ref 65), some (.int i)]) (st1 := [(.ref (am_B + 1)), (.int (sx X (i.toInt + 1))), (.ref 0)]) (lt_f rfl (Nat.le_of_ble_eq_true rfl)) rfl fun x7 e8 => ?_
  have e8 : x7 = i + x5 := e8
  have e8t : x7.toInt = i.toInt + x5.toInt := by rw [e8]; exact n_add (by omega) (by omega)
  refine x_ia 687 (lt_f rfl (Nat.le_of_ble_eq_true rfl)) rfl (by omega) (by omega) ?_
  rw [show x7.toInt = i.toInt + 2 by omega]
  show aw (some X) _ 193 _ (687, [some (.ref (am_B + 1)), some (.ref 0), some (.ref 65), some (.int i)], [(.int (sx X (i.toInt + 2))), (.int (sx X (i.toInt + 1))), (.ref 0)]) w
  refine aw_step (f1 := (688, [some (.ref (am_B + 1)), some (.ref 0), some (.ref 65), some (.int i)], [(.ref (am_B + 1)), (.int (sx X (i.toInt + 2))), (.int (sx X (i.toInt + 1))), (.ref 0)])) (w1 := w) (lt_f rfl (Nat.le_of_ble_eq_true rfl)) rfl ?_
  refine aw_step (f1 := (689, [some (.ref (am_B + 1)), some (.ref 0), some (.ref 65), some (.int i)], [(.int i), (.ref (am_B + 1)), (.int (sx X (i.toInt + 2))), (.int (sx X (i.toInt + 1))), (.ref 0)])) (w1 := w) (lt_f rfl (Nat.le_of_ble_eq_true rfl)) rfl ?_
  refine x_i (pc1 := 690) (ls1 := [some (.ref (am_B + 1)), some (.ref 0), some (.ref 65), some (.int i)]) (st1 := [(.int i), (.ref (am_B + 1)), (.int (sx X (i.toInt + 2))), (.int (sx X (i.toInt + 1))), (.ref 0)]) (lt_f rfl (Nat.le_of_ble_eq_true rfl)) rfl fun x9 e10 => ?_
  have e10t : x9.toInt = 3 := by rw [e10]; rfl
  refine x_i (pc1 := 691) (ls1 := [some (.ref (am_B + 1)), some (.ref 0), some (.ref 65), some (.int i)]) (st1 := [(.ref (am_B + 1)), (.int (sx X (i.toInt + 2))), (.int (sx X (i.toInt + 1))), (.ref 0)]) (lt_f rfl (Nat.le_of_ble_eq_true rfl)) rfl fun x11 e12 => ?_
  have e12 : x11 = i + x9 := e12
  have e12t : x11.toInt = i.toInt + x9.toInt := by rw [e12]; exact n_add (by omega) (by omega)
  refine x_ia 692 (lt_f rfl (Nat.le_of_ble_eq_true rfl)) rfl (by omega) (by omega) ?_
  rw [show x11.toInt = i.toInt + 3 by omega]
  show aw (some X) _ 193 _ (692, [some (.ref (am_B + 1)), some (.ref 0), some (.ref 65), some (.int i)], [(.int (sx X (i.toInt + 3))), (.int (sx X (i.toInt + 2))), (.int (sx X (i.toInt + 1))), (.ref 0)]) w
  refine aw_step (f1 := (693, [some (.ref (am_B + 1)), some (.ref 0), some (.ref 65), some (.int i)], [(.ref (am_B + 1)), (.int (sx X (i.toInt + 3))), (.int (sx X (i.toInt + 2))), (.int (sx X (i.toInt + 1))), (.ref 0)])) (w1 := w) (lt_f rfl (Nat.le_of_ble_eq_true rfl)) rfl ?_
  refine aw_step (f1 := (694, [some (.ref (am_B + 1)), some (.ref 0), some (.ref 65), some (.int i)], [(.int i), (.ref (am_B + 1)), (.int (sx X (i.toInt + 3))), (.int (sx X (i.toInt + 2))), (.int (sx X (i.toInt + 1))), (.ref 0)])) (w1 := w) (lt_f rfl (Nat.le_of_ble_eq_true rfl)) rfl ?_
  refine x_i (pc1 := 695) (ls1 := [some (.ref (am_B + 1)), some (.ref 0), some (.ref 65), some (.int i)]) (st1 := [(.int i), (.ref (am_B + 1)), (.int (sx X (i.toInt + 3))), (.int (sx X (i.toInt + 2))), (.int (sx X (i.toInt + 1))), (.ref 0)]) (lt_f rfl (Nat.le_of_ble_eq_true rfl)) rfl fun x13 e14 => ?_
  have e14t : x13.toInt = 4 := by rw [e14]; rfl
  refine x_i (pc1 := 696) (ls1 := [some (.ref (am_B + 1)), some (.ref 0), some (.ref 65), some (.int i)]) (st1 := [(.ref (am_B + 1)), (.int (sx X (i.toInt + 3))), (.int (sx X (i.toInt + 2))), (.int (sx X (i.toInt + 1))), (.ref 0)]) (lt_f rfl (Nat.le_of_ble_eq_true rfl)) rfl fun x15 e16 => ?_
  have e16 : x15 = i + x13 := e16
  have e16t : x15.toInt = i.toInt + x13.toInt := by rw [e16]; exact n_add (by omega) (by omega)
  refine x_ia 697 (lt_f rfl (Nat.le_of_ble_eq_true rfl)) rfl (by omega) (by omega) ?_
  rw [show x15.toInt = i.toInt + 4 by omega]
  show aw (some X) _ 193 _ (697, [some (.ref (am_B + 1)), some (.ref 0), some (.ref 65), some (.int i)], [(.int (sx X (i.toInt + 4))), (.int (sx X (i.toInt + 3))), (.int (sx X (i.toInt + 2))), (.int (sx X (i.toInt + 1))), (.ref 0)]) w
  refine aw_step (f1 := (698, [some (.ref (am_B + 1)), some (.ref 0), some (.ref 65), some (.int i)], [(.ref (am_B + 1)), (.int (sx X (i.toInt + 4))), (.int (sx X (i.toInt + 3))), (.int (sx X (i.toInt + 2))), (.int (sx X (i.toInt + 1))), (.ref 0)])) (w1 := w) (lt_f rfl (Nat.le_of_ble_eq_true rfl)) rfl ?_
  refine aw_step (f1 := (699, [some (.ref (am_B + 1)), some (.ref 0), some (.ref 65), some (.int i)], [(.int i), (.ref (am_B + 1)), (.int (sx X (i.toInt + 4))), (.int (sx X (i.toInt + 3))), (.int (sx X (i.toInt + 2))), (.int (sx X (i.toInt + 1))), (.ref 0)])) (w1 := w) (lt_f rfl (Nat.le_of_ble_eq_true rfl)) rfl ?_
  refine x_i (pc1 := 700) (ls1 := [some (.ref (am_B + 1)), some (.ref 0), some (.ref 65), some (.int i)]) (st1 := [(.int i), (.ref (am_B + 1)), (.int (sx X (i.toInt + 4))), (.int (sx X (i.toInt + 3))), (.int (sx X (i.toInt + 2))), (.int (sx X (i.toInt + 1))), (.ref 0)]) (lt_f rfl (Nat.le_of_ble_eq_true rfl)) rfl fun x17 e18 => ?_
  have e18t : x17.toInt = 5 := by rw [e18]; rfl
  refine x_i (pc1 := 701) (ls1 := [some (.ref (am_B + 1)), some (.ref 0), some (.ref 65), some (.int i)]) (st1 := [(.ref (am_B + 1)), (.int (sx X (i.toInt + 4))), (.int (sx X (i.toInt + 3))), (.int (sx X (i.toInt + 2))), (.int (sx X (i.toInt + 1))), (.ref 0)]) (lt_f rfl (Nat.le_of_ble_eq_true rfl)) rfl fun x19 e20 => ?_
  have e20 : x19 = i + x17 := e20
  have e20t : x19.toInt = i.toInt + x17.toInt := by rw [e20]; exact n_add (by omega) (by omega)
  refine x_ia 702 (lt_f rfl (Nat.le_of_ble_eq_true rfl)) rfl (by omega) (by omega) ?_
  rw [show x19.toInt = i.toInt + 5 by omega]
  show aw (some X) _ 193 _ (702, [some (.ref (am_B + 1)), some (.ref 0), some (.ref 65), some (.int i)], [(.int (sx X (i.toInt + 5))), (.int (sx X (i.toInt + 4))), (.int (sx X (i.toInt + 3))), (.int (sx X (i.toInt + 2))), (.int (sx X (i.toInt + 1))), (.ref 0)]) w
  refine x_cv (z := 76) (p := 0) (as := [(.int (sx X (i.toInt + 1))), (.int (sx X (i.toInt + 2))), (.int (sx X (i.toInt + 3))), (.int (sx X (i.toInt + 4))), (.int (sx X (i.toInt + 5)))]) (st1 := []) (H.inv) 705 (lt_f rfl (Nat.le_of_ble_eq_true rfl)) rfl rfl rfl rfl rfl rfl rfl (Nat.le_of_ble_eq_true rfl) (Nat.le_of_ble_eq_true rfl) ((tc_changed (sx X (i.toInt + 1)) (sx X (i.toInt + 2)) (sx X (i.toInt + 3)) (sx X (i.toInt + 4)) (sx X (i.toInt + 5)) H).deep (by omega)) ?_
  rintro _ w22 ⟨⟨Hw22, w22l⟩, x21, rfl⟩
  refine ⟨w22l, ?_⟩
  show aw (some X) _ 193 _ (705, [some (.ref (am_B + 1)), some (.ref 0), some (.ref 65), some (.int i)], [(.int x21)]) w22
  refine aw_step (f1 := (706, [some (.ref (am_B + 1)), some (.ref 0), some (.ref 65), some (.int i)], [])) (w1 := w22) (lt_f rfl (Nat.le_of_ble_eq_true rfl)) rfl ?_
  refine aw_step (f1 := (707, [some (.ref (am_B + 1)), some (.ref 0), some (.ref 65), some (.int i)], [(.ref 65)])) (w1 := w22) (lt_f rfl (Nat.le_of_ble_eq_true rfl)) rfl ?_
  refine aw_step (f1 := (708, [some (.ref (am_B + 1)), some (.ref 0), some (.ref 65), some (.int i)], [(.ref (am_B + 1)), (.ref 65)])) (w1 := w22) (lt_f rfl (Nat.le_of_ble_eq_true rfl)) rfl ?_
  refine aw_step (f1 := (709, [some (.ref (am_B + 1)), some (.ref 0), some (.ref 65), some (.int i)], [(.int i), (.ref (am_B + 1)), (.ref 65)])) (w1 := w22) (lt_f rfl (Nat.le_of_ble_eq_true rfl)) rfl ?_
  refine x_i (pc1 := 710) (ls1 := [some (.ref (am_B + 1)), some (.ref 0), some (.ref 65), some (.int i)]) (st1 := [(.int i), (.ref (am_B + 1)), (.ref 65)]) (lt_f rfl (Nat.le_of_ble_eq_true rfl)) rfl fun x23 e24 => ?_
  have e24t : x23.toInt = 1 := by rw [e24]; rfl
  refine x_i (pc1 := 711) (ls1 := [some (.ref (am_B + 1)), some (.ref 0), some (.ref 65), some (.int i)]) (st1 := [(.ref (am_B + 1)), (.ref 65)]) (lt_f rfl (Nat.le_of_ble_eq_true rfl)) rfl fun x25 e26 => ?_
  have e26 : x25 = i + x23 := e26
  have e26t : x25.toInt = i.toInt + x23.toInt := by rw [e26]; exact n_add (by omega) (by omega)
  refine x_ia 712 (lt_f rfl (Nat.le_of_ble_eq_true rfl)) rfl (by omega) (by omega) ?_
  rw [show x25.toInt = i.toInt + 1 by omega]
  show aw (some X) _ 193 _ (712, [some (.ref (am_B + 1)), some (.ref 0), some (.ref 65), some (.int i)], [(.int (sx X (i.toInt + 1))), (.ref 65)]) w22
  refine aw_step (f1 := (713, [some (.ref (am_B + 1)), some (.ref 0), some (.ref 65), some (.int i)], [(.ref (am_B + 1)), (.int (sx X (i.toInt + 1))), (.ref 65)])) (w1 := w22) (lt_f rfl (Nat.le_of_ble_eq_true rfl)) rfl ?_
  refine aw_step (f1 := (714, [some (.ref (am_B + 1)), some (.ref 0), some (.ref 65), some (.int i)], [(.int i), (.ref (am_B + 1)), (.int (sx X (i.toInt + 1))), (.ref 65)])) (w1 := w22) (lt_f rfl (Nat.le_of_ble_eq_true rfl)) rfl ?_
  refine x_i (pc1 := 715) (ls1 := [some (.ref (am_B + 1)), some (.ref 0), some (.ref 65), some (.int i)]) (st1 := [(.int i), (.ref (am_B + 1)), (.int (sx X (i.toInt + 1))), (.ref 65)]) (lt_f rfl (Nat.le_of_ble_eq_true rfl)) rfl fun x27 e28 => ?_
  have e28t : x27.toInt = 2 := by rw [e28]; rfl
  refine x_i (pc1 := 716) (ls1 := [some (.ref (am_B + 1)), some (.ref 0), some (.ref 65), some (.int i)]) (st1 := [(.ref (am_B + 1)), (.int (sx X (i.toInt + 1))), (.ref 65)]) (lt_f rfl (Nat.le_of_ble_eq_true rfl)) rfl fun x29 e30 => ?_
  have e30 : x29 = i + x27 := e30
  have e30t : x29.toInt = i.toInt + x27.toInt := by rw [e30]; exact n_add (by omega) (by omega)
  refine x_ia 717 (lt_f rfl (Nat.le_of_ble_eq_true rfl)) rfl (by omega) (by omega) ?_
  rw [show x29.toInt = i.toInt + 2 by omega]
  show aw (some X) _ 193 _ (717, [some (.ref (am_B + 1)), some (.ref 0), some (.ref 65), some (.int i)], [(.int (sx X (i.toInt + 2))), (.int (sx X (i.toInt + 1))), (.ref 65)]) w22
  refine aw_step (f1 := (718, [some (.ref (am_B + 1)), some (.ref 0), some (.ref 65), some (.int i)], [(.ref (am_B + 1)), (.int (sx X (i.toInt + 2))), (.int (sx X (i.toInt + 1))), (.ref 65)])) (w1 := w22) (lt_f rfl (Nat.le_of_ble_eq_true rfl)) rfl ?_
  refine aw_step (f1 := (719, [some (.ref (am_B + 1)), some (.ref 0), some (.ref 65), some (.int i)], [(.int i), (.ref (am_B + 1)), (.int (sx X (i.toInt + 2))), (.int (sx X (i.toInt + 1))), (.ref 65)])) (w1 := w22) (lt_f rfl (Nat.le_of_ble_eq_true rfl)) rfl ?_
  refine x_i (pc1 := 720) (ls1 := [some (.ref (am_B + 1)), some (.ref 0), some (.ref 65), some (.int i)]) (st1 := [(.int i), (.ref (am_B + 1)), (.int (sx X (i.toInt + 2))), (.int (sx X (i.toInt + 1))), (.ref 65)]) (lt_f rfl (Nat.le_of_ble_eq_true rfl)) rfl fun x31 e32 => ?_
  have e32t : x31.toInt = 3 := by rw [e32]; rfl
  refine x_i (pc1 := 721) (ls1 := [some (.ref (am_B + 1)), some (.ref 0), some (.ref 65), some (.int i)]) (st1 := [(.ref (am_B + 1)), (.int (sx X (i.toInt + 2))), (.int (sx X (i.toInt + 1))), (.ref 65)]) (lt_f rfl (Nat.le_of_ble_eq_true rfl)) rfl fun x33 e34 => ?_
  have e34 : x33 = i + x31 := e34
  have e34t : x33.toInt = i.toInt + x31.toInt := by rw [e34]; exact n_add (by omega) (by omega)
  refine x_ia 722 (lt_f rfl (Nat.le_of_ble_eq_true rfl)) rfl (by omega) (by omega) ?_
  rw [show x33.toInt = i.toInt + 3 by omega]
  show aw (some X) _ 193 _ (722, [some (.ref (am_B + 1)), some (.ref 0), some (.ref 65), some (.int i)], [(.int (sx X (i.toInt + 3))), (.int (sx X (i.toInt + 2))), (.int (sx X (i.toInt + 1))), (.ref 65)]) w22
  refine aw_step (f1 := (723, [some (.ref (am_B + 1)), some (.ref 0), some (.ref 65), some (.int i)], [(.ref (am_B + 1)), (.int (sx X (i.toInt + 3))), (.int (sx X (i.toInt + 2))), (.int (sx X (i.toInt + 1))), (.ref 65)])) (w1 := w22) (lt_f rfl (Nat.le_of_ble_eq_true rfl)) rfl ?_
  refine aw_step (f1 := (724, [some (.ref (am_B + 1)), some (.ref 0), some (.ref 65), some (.int i)], [(.int i), (.ref (am_B + 1)), (.int (sx X (i.toInt + 3))), (.int (sx X (i.toInt + 2))), (.int (sx X (i.toInt + 1))), (.ref 65)])) (w1 := w22) (lt_f rfl (Nat.le_of_ble_eq_true rfl)) rfl ?_
  refine x_i (pc1 := 725) (ls1 := [some (.ref (am_B + 1)), some (.ref 0), some (.ref 65), some (.int i)]) (st1 := [(.int i), (.ref (am_B + 1)), (.int (sx X (i.toInt + 3))), (.int (sx X (i.toInt + 2))), (.int (sx X (i.toInt + 1))), (.ref 65)]) (lt_f rfl (Nat.le_of_ble_eq_true rfl)) rfl fun x35 e36 => ?_
  have e36t : x35.toInt = 4 := by rw [e36]; rfl
  refine x_i (pc1 := 726) (ls1 := [some (.ref (am_B + 1)), some (.ref 0), some (.ref 65), some (.int i)]) (st1 := [(.ref (am_B + 1)), (.int (sx X (i.toInt + 3))), (.int (sx X (i.toInt + 2))), (.int (sx X (i.toInt + 1))), (.ref 65)]) (lt_f rfl (Nat.le_of_ble_eq_true rfl)) rfl fun x37 e38 => ?_
  have e38 : x37 = i + x35 := e38
  have e38t : x37.toInt = i.toInt + x35.toInt := by rw [e38]; exact n_add (by omega) (by omega)
  refine x_ia 727 (lt_f rfl (Nat.le_of_ble_eq_true rfl)) rfl (by omega) (by omega) ?_
  rw [show x37.toInt = i.toInt + 4 by omega]
  show aw (some X) _ 193 _ (727, [some (.ref (am_B + 1)), some (.ref 0), some (.ref 65), some (.int i)], [(.int (sx X (i.toInt + 4))), (.int (sx X (i.toInt + 3))), (.int (sx X (i.toInt + 2))), (.int (sx X (i.toInt + 1))), (.ref 65)]) w22
  refine aw_step (f1 := (728, [some (.ref (am_B + 1)), some (.ref 0), some (.ref 65), some (.int i)], [(.ref (am_B + 1)), (.int (sx X (i.toInt + 4))), (.int (sx X (i.toInt + 3))), (.int (sx X (i.toInt + 2))), (.int (sx X (i.toInt + 1))), (.ref 65)])) (w1 := w22) (lt_f rfl (Nat.le_of_ble_eq_true rfl)) rfl ?_
  refine aw_step (f1 := (729, [some (.ref (am_B + 1)), some (.ref 0), some (.ref 65), some (.int i)], [(.int i), (.ref (am_B + 1)), (.int (sx X (i.toInt + 4))), (.int (sx X (i.toInt + 3))), (.int (sx X (i.toInt + 2))), (.int (sx X (i.toInt + 1))), (.ref 65)])) (w1 := w22) (lt_f rfl (Nat.le_of_ble_eq_true rfl)) rfl ?_
  refine x_i (pc1 := 730) (ls1 := [some (.ref (am_B + 1)), some (.ref 0), some (.ref 65), some (.int i)]) (st1 := [(.int i), (.ref (am_B + 1)), (.int (sx X (i.toInt + 4))), (.int (sx X (i.toInt + 3))), (.int (sx X (i.toInt + 2))), (.int (sx X (i.toInt + 1))), (.ref 65)]) (lt_f rfl (Nat.le_of_ble_eq_true rfl)) rfl fun x39 e40 => ?_
  have e40t : x39.toInt = 5 := by rw [e40]; rfl
  refine x_i (pc1 := 731) (ls1 := [some (.ref (am_B + 1)), some (.ref 0), some (.ref 65), some (.int i)]) (st1 := [(.ref (am_B + 1)), (.int (sx X (i.toInt + 4))), (.int (sx X (i.toInt + 3))), (.int (sx X (i.toInt + 2))), (.int (sx X (i.toInt + 1))), (.ref 65)]) (lt_f rfl (Nat.le_of_ble_eq_true rfl)) rfl fun x41 e42 => ?_
  have e42 : x41 = i + x39 := e42
  have e42t : x41.toInt = i.toInt + x39.toInt := by rw [e42]; exact n_add (by omega) (by omega)
  refine x_ia 732 (lt_f rfl (Nat.le_of_ble_eq_true rfl)) rfl (by omega) (by omega) ?_
  rw [show x41.toInt = i.toInt + 5 by omega]
  show aw (some X) _ 193 _ (732, [some (.ref (am_B + 1)), some (.ref 0), some (.ref 65), some (.int i)], [(.int (sx X (i.toInt + 5))), (.int (sx X (i.toInt + 4))), (.int (sx X (i.toInt + 3))), (.int (sx X (i.toInt + 2))), (.int (sx X (i.toInt + 1))), (.ref 65)]) w22
  refine x_cv (z := 150) (p := 65) (as := [(.int (sx X (i.toInt + 1))), (.int (sx X (i.toInt + 2))), (.int (sx X (i.toInt + 3))), (.int (sx X (i.toInt + 4))), (.int (sx X (i.toInt + 5)))]) (st1 := []) (Hw22.inv) 735 (lt_f rfl (Nat.le_of_ble_eq_true rfl)) rfl rfl rfl rfl rfl rfl rfl (Nat.le_of_ble_eq_true rfl) (Nat.le_of_ble_eq_true rfl) ((tm_changed (sx X (i.toInt + 1)) (sx X (i.toInt + 2)) (sx X (i.toInt + 3)) (sx X (i.toInt + 4)) (sx X (i.toInt + 5)) Hw22).deep (by omega)) ?_
  rintro _ w44 ⟨⟨Hw44, w44l⟩, x43, rfl⟩
  refine ⟨w44l, ?_⟩
  show aw (some X) _ 193 _ (735, [some (.ref (am_B + 1)), some (.ref 0), some (.ref 65), some (.int i)], [(.int x43)]) w44
  refine aw_step (f1 := (736, [some (.ref (am_B + 1)), some (.ref 0), some (.ref 65), some (.int i)], [])) (w1 := w44) (lt_f rfl (Nat.le_of_ble_eq_true rfl)) rfl ?_
  refine aw_step (f1 := (1476, [some (.ref (am_B + 1)), some (.ref 0), some (.ref 65), some (.int i)], [])) (w1 := w44) (lt_f rfl (Nat.le_of_ble_eq_true rfl)) rfl ?_
  exact K w44 Hw44
set_option maxRecDepth 100000 in
theorem lk_17 {X : List Int32} {Q : Option Value → am_W → Prop} {w : am_W} {i : Int32} (h0 : 0 ≤ i.toInt) (h6 : i.toInt + 6 ≤ X.length) (hX : X.length ≤ 384) (H : TI w) (K : ∀ w1, TI w1 → aw (some X) 60 193 Q (1476, [some (.ref (am_B + 1)), some (.ref 0), some (.ref 65), some (.int i)], []) w1) : aw (some X) 60 193 Q (739, [some (.ref (am_B + 1)), some (.ref 0), some (.ref 65), some (.int i)], []) w := by
  refine aw_step (f1 := (740, [some (.ref (am_B + 1)), some (.ref 0), some (.ref 65), some (.int i)], [(.ref 0)])) (w1 := w) (lt_f rfl (Nat.le_of_ble_eq_true rfl)) rfl ?_
  refine aw_step (f1 := (741, [some (.ref (am_B + 1)), some (.ref 0), some (.ref 65), some (.int i)], [(.ref (am_B + 1)), (.ref 0)])) (w1 := w) (lt_f rfl (Nat.le_of_ble_eq_true rfl)) rfl ?_
  refine aw_step (f1 := (742, [some (.ref (am_B + 1)), some (.ref 0), some (.ref 65), some (.int i)], [(.int i), (.ref (am_B + 1)), (.ref 0)])) (w1 := w) (lt_f rfl (Nat.le_of_ble_eq_true rfl)) rfl ?_
  refine x_i (pc1 := 743) (ls1 := [some (.ref (am_B + 1)), some (.ref 0), some (.ref 65), some (.int i)]) (st1 := [(.int i), (.ref (am_B + 1)), (.ref 0)]) (lt_f rfl (Nat.le_of_ble_eq_true rfl)) rfl fun x1 e2 => ?_
  have e2t : x1.toInt = 1 := by rw [e2]; rfl
  refine x_i (pc1 := 744) (ls1 := [some (.ref (am_B + 1)), some (.ref 0), some (.ref 65), some (.int i)]) (st1 := [(.ref (am_B + 1)), (.ref 0)]) (lt_f rfl (Nat.le_of_ble_eq_true rfl)) rfl fun x3 e4 => ?_
  have e4 : x3 = i + x1 := e4
  have e4t : x3.toInt = i.toInt + x1.toInt := by rw [e4]; exact n_add (by omega) (by omega)
  refine x_ia 745 (lt_f rfl (Nat.le_of_ble_eq_true rfl)) rfl (by omega) (by omega) ?_
  rw [show x3.toInt = i.toInt + 1 by omega]
  show aw (some X) _ 193 _ (745, [some (.ref (am_B + 1)), some (.ref 0), some (.ref 65), some (.int i)], [(.int (sx X (i.toInt + 1))), (.ref 0)]) w
  refine aw_step (f1 := (746, [some (.ref (am_B + 1)), some (.ref 0), some (.ref 65), some (.int i)], [(.ref (am_B + 1)), (.int (sx X (i.toInt + 1))), (.ref 0)])) (w1 := w) (lt_f rfl (Nat.le_of_ble_eq_true rfl)) rfl ?_
  refine aw_step (f1 := (747, [some (.ref (am_B + 1)), some (.ref 0), some (.ref 65), some (.int i)], [(.int i), (.ref (am_B + 1)), (.int (sx X (i.toInt + 1))), (.ref 0)])) (w1 := w) (lt_f rfl (Nat.le_of_ble_eq_true rfl)) rfl ?_
  refine x_i (pc1 := 748) (ls1 := [some (.ref (am_B + 1)), some (.ref 0), some (.ref 65), some (.int i)]) (st1 := [(.int i), (.ref (am_B + 1)), (.int (sx X (i.toInt + 1))), (.ref 0)]) (lt_f rfl (Nat.le_of_ble_eq_true rfl)) rfl fun x5 e6 => ?_
  have e6t : x5.toInt = 2 := by rw [e6]; rfl
  refine x_i (pc1 := 749) (ls1 := [some (.ref (am_B + 1)), some (.ref 0), some (.ref 65), some (.int i)]) (st1 := [(.ref (am_B + 1)), (.int (sx X (i.toInt + 1))), (.ref 0)]) (lt_f rfl (Nat.le_of_ble_eq_true rfl)) rfl fun x7 e8 => ?_
  have e8 : x7 = i + x5 := e8
  have e8t : x7.toInt = i.toInt + x5.toInt := by rw [e8]; exact n_add (by omega) (by omega)
  refine x_ia 750 (lt_f rfl (Nat.le_of_ble_eq_true rfl)) rfl (by omega) (by omega) ?_
  rw [show x7.toInt = i.toInt + 2 by omega]
  show aw (some X) _ 193 _ (750, [some (.ref (am_B + 1)), some (.ref 0), some (.ref 65), some (.int i)], [(.int (sx X (i.toInt + 2))), (.int (sx X (i.toInt + 1))), (.ref 0)]) w
  refine aw_step (f1 := (751, [some (.ref (am_B + 1)), some (.ref 0), some (.ref 65), some (.int i)], [(.ref (am_B + 1)), (.int (sx X (i.toInt + 2))), (.int (sx X (i.toInt + 1))), (.ref 0)])) (w1 := w) (lt_f rfl (Nat.le_of_ble_eq_true rfl)) rfl ?_
  refine aw_step (f1 := (752, [some (.ref (am_B + 1)), some (.ref 0), some (.ref 65), some (.int i)], [(.int i), (.ref (am_B + 1)), (.int (sx X (i.toInt + 2))), (.int (sx X (i.toInt + 1))), (.ref 0)])) (w1 := w) (lt_f rfl (Nat.le_of_ble_eq_true rfl)) rfl ?_
  refine x_i (pc1 := 753) (ls1 := [some (.ref (am_B + 1)), some (.ref 0), some (.ref 65), some (.int i)]) (st1 := [(.int i), (.ref (am_B + 1)), (.int (sx X (i.toInt + 2))), (.int (sx X (i.toInt + 1))), (.ref 0)]) (lt_f rfl (Nat.le_of_ble_eq_true rfl)) rfl fun x9 e10 => ?_
  have e10t : x9.toInt = 3 := by rw [e10]; rfl
  refine x_i (pc1 := 754) (ls1 := [some (.ref (am_B + 1)), some (.ref 0), some (.ref 65), some (.int i)]) (st1 := [(.ref (am_B + 1)), (.int (sx X (i.toInt + 2))), (.int (sx X (i.toInt + 1))), (.ref 0)]) (lt_f rfl (Nat.le_of_ble_eq_true rfl)) rfl fun x11 e12 => ?_
  have e12 : x11 = i + x9 := e12
  have e12t : x11.toInt = i.toInt + x9.toInt := by rw [e12]; exact n_add (by omega) (by omega)
  refine x_ia 755 (lt_f rfl (Nat.le_of_ble_eq_true rfl)) rfl (by omega) (by omega) ?_
  rw [show x11.toInt = i.toInt + 3 by omega]
  show aw (some X) _ 193 _ (755, [some (.ref (am_B + 1)), some (.ref 0), some (.ref 65), some (.int i)], [(.int (sx X (i.toInt + 3))), (.int (sx X (i.toInt + 2))), (.int (sx X (i.toInt + 1))), (.ref 0)]) w
  refine x_cv (z := 77) (p := 0) (as := [(.int (sx X (i.toInt + 1))), (.int (sx X (i.toInt + 2))), (.int (sx X (i.toInt + 3)))]) (st1 := []) (H.inv) 758 (lt_f rfl (Nat.le_of_ble_eq_true rfl)) rfl rfl rfl rfl rfl rfl rfl (Nat.le_of_ble_eq_true rfl) (Nat.le_of_ble_eq_true rfl) ((tc_time (sx X (i.toInt + 1)) (sx X (i.toInt + 2)) (sx X (i.toInt + 3)) H).deep (by omega)) ?_
  rintro _ w14 ⟨⟨Hw14, w14l⟩, x13, rfl⟩
  refine ⟨w14l, ?_⟩
  show aw (some X) _ 193 _ (758, [some (.ref (am_B + 1)), some (.ref 0), some (.ref 65), some (.int i)], [(.int x13)]) w14
  refine aw_step (f1 := (759, [some (.ref (am_B + 1)), some (.ref 0), some (.ref 65), some (.int i)], [])) (w1 := w14) (lt_f rfl (Nat.le_of_ble_eq_true rfl)) rfl ?_
  refine aw_step (f1 := (760, [some (.ref (am_B + 1)), some (.ref 0), some (.ref 65), some (.int i)], [(.ref 65)])) (w1 := w14) (lt_f rfl (Nat.le_of_ble_eq_true rfl)) rfl ?_
  refine aw_step (f1 := (761, [some (.ref (am_B + 1)), some (.ref 0), some (.ref 65), some (.int i)], [(.ref (am_B + 1)), (.ref 65)])) (w1 := w14) (lt_f rfl (Nat.le_of_ble_eq_true rfl)) rfl ?_
  refine aw_step (f1 := (762, [some (.ref (am_B + 1)), some (.ref 0), some (.ref 65), some (.int i)], [(.int i), (.ref (am_B + 1)), (.ref 65)])) (w1 := w14) (lt_f rfl (Nat.le_of_ble_eq_true rfl)) rfl ?_
  refine x_i (pc1 := 763) (ls1 := [some (.ref (am_B + 1)), some (.ref 0), some (.ref 65), some (.int i)]) (st1 := [(.int i), (.ref (am_B + 1)), (.ref 65)]) (lt_f rfl (Nat.le_of_ble_eq_true rfl)) rfl fun x15 e16 => ?_
  have e16t : x15.toInt = 1 := by rw [e16]; rfl
  refine x_i (pc1 := 764) (ls1 := [some (.ref (am_B + 1)), some (.ref 0), some (.ref 65), some (.int i)]) (st1 := [(.ref (am_B + 1)), (.ref 65)]) (lt_f rfl (Nat.le_of_ble_eq_true rfl)) rfl fun x17 e18 => ?_
  have e18 : x17 = i + x15 := e18
  have e18t : x17.toInt = i.toInt + x15.toInt := by rw [e18]; exact n_add (by omega) (by omega)
  refine x_ia 765 (lt_f rfl (Nat.le_of_ble_eq_true rfl)) rfl (by omega) (by omega) ?_
  rw [show x17.toInt = i.toInt + 1 by omega]
  show aw (some X) _ 193 _ (765, [some (.ref (am_B + 1)), some (.ref 0), some (.ref 65), some (.int i)], [(.int (sx X (i.toInt + 1))), (.ref 65)]) w14
  refine aw_step (f1 := (766, [some (.ref (am_B + 1)), some (.ref 0), some (.ref 65), some (.int i)], [(.ref (am_B + 1)), (.int (sx X (i.toInt + 1))), (.ref 65)])) (w1 := w14) (lt_f rfl (Nat.le_of_ble_eq_true rfl)) rfl ?_
  refine aw_step (f1 := (767, [some (.ref (am_B + 1)), some (.ref 0), some (.ref 65), some (.int i)], [(.int i), (.ref (am_B + 1)), (.int (sx X (i.toInt + 1))), (.ref 65)])) (w1 := w14) (lt_f rfl (Nat.le_of_ble_eq_true rfl)) rfl ?_
  refine x_i (pc1 := 768) (ls1 := [some (.ref (am_B + 1)), some (.ref 0), some (.ref 65), some (.int i)]) (st1 := [(.int i), (.ref (am_B + 1)), (.int (sx X (i.toInt + 1))), (.ref 65)]) (lt_f rfl (Nat.le_of_ble_eq_true rfl)) rfl fun x19 e20 => ?_
  have e20t : x19.toInt = 2 := by rw [e20]; rfl
  refine x_i (pc1 := 769) (ls1 := [some (.ref (am_B + 1)), some (.ref 0), some (.ref 65), some (.int i)]) (st1 := [(.ref (am_B + 1)), (.int (sx X (i.toInt + 1))), (.ref 65)]) (lt_f rfl (Nat.le_of_ble_eq_true rfl)) rfl fun x21 e22 => ?_
  have e22 : x21 = i + x19 := e22
  have e22t : x21.toInt = i.toInt + x19.toInt := by rw [e22]; exact n_add (by omega) (by omega)
  refine x_ia 770 (lt_f rfl (Nat.le_of_ble_eq_true rfl)) rfl (by omega) (by omega) ?_
  rw [show x21.toInt = i.toInt + 2 by omega]
  show aw (some X) _ 193 _ (770, [some (.ref (am_B + 1)), some (.ref 0), some (.ref 65), some (.int i)], [(.int (sx X (i.toInt + 2))), (.int (sx X (i.toInt + 1))), (.ref 65)]) w14
  refine aw_step (f1 := (771, [some (.ref (am_B + 1)), some (.ref 0), some (.ref 65), some (.int i)], [(.ref (am_B + 1)), (.int (sx X (i.toInt + 2))), (.int (sx X (i.toInt + 1))), (.ref 65)])) (w1 := w14) (lt_f rfl (Nat.le_of_ble_eq_true rfl)) rfl ?_
  refine aw_step (f1 := (772, [some (.ref (am_B + 1)), some (.ref 0), some (.ref 65), some (.int i)], [(.int i), (.ref (am_B + 1)), (.int (sx X (i.toInt + 2))), (.int (sx X (i.toInt + 1))), (.ref 65)])) (w1 := w14) (lt_f rfl (Nat.le_of_ble_eq_true rfl)) rfl ?_
  refine x_i (pc1 := 773) (ls1 := [some (.ref (am_B + 1)), some (.ref 0), some (.ref 65), some (.int i)]) (st1 := [(.int i), (.ref (am_B + 1)), (.int (sx X (i.toInt + 2))), (.int (sx X (i.toInt + 1))), (.ref 65)]) (lt_f rfl (Nat.le_of_ble_eq_true rfl)) rfl fun x23 e24 => ?_
  have e24t : x23.toInt = 3 := by rw [e24]; rfl
  refine x_i (pc1 := 774) (ls1 := [some (.ref (am_B + 1)), some (.ref 0), some (.ref 65), some (.int i)]) (st1 := [(.ref (am_B + 1)), (.int (sx X (i.toInt + 2))), (.int (sx X (i.toInt + 1))), (.ref 65)]) (lt_f rfl (Nat.le_of_ble_eq_true rfl)) rfl fun x25 e26 => ?_
  have e26 : x25 = i + x23 := e26
  have e26t : x25.toInt = i.toInt + x23.toInt := by rw [e26]; exact n_add (by omega) (by omega)
  refine x_ia 775 (lt_f rfl (Nat.le_of_ble_eq_true rfl)) rfl (by omega) (by omega) ?_
  rw [show x25.toInt = i.toInt + 3 by omega]
  show aw (some X) _ 193 _ (775, [some (.ref (am_B + 1)), some (.ref 0), some (.ref 65), some (.int i)], [(.int (sx X (i.toInt + 3))), (.int (sx X (i.toInt + 2))), (.int (sx X (i.toInt + 1))), (.ref 65)]) w14
  refine x_cv (z := 151) (p := 65) (as := [(.int (sx X (i.toInt + 1))), (.int (sx X (i.toInt + 2))), (.int (sx X (i.toInt + 3)))]) (st1 := []) (Hw14.inv) 778 (lt_f rfl (Nat.le_of_ble_eq_true rfl)) rfl rfl rfl rfl rfl rfl rfl (Nat.le_of_ble_eq_true rfl) (Nat.le_of_ble_eq_true rfl) ((tm_time (sx X (i.toInt + 1)) (sx X (i.toInt + 2)) (sx X (i.toInt + 3)) Hw14).deep (by omega)) ?_
  rintro _ w28 ⟨⟨Hw28, w28l⟩, x27, rfl⟩
  refine ⟨w28l, ?_⟩
  show aw (some X) _ 193 _ (778, [some (.ref (am_B + 1)), some (.ref 0), some (.ref 65), some (.int i)], [(.int x27)]) w28
  refine aw_step (f1 := (779, [some (.ref (am_B + 1)), some (.ref 0), some (.ref 65), some (.int i)], [])) (w1 := w28) (lt_f rfl (Nat.le_of_ble_eq_true rfl)) rfl ?_
  refine aw_step (f1 := (1476, [some (.ref (am_B + 1)), some (.ref 0), some (.ref 65), some (.int i)], [])) (w1 := w28) (lt_f rfl (Nat.le_of_ble_eq_true rfl)) rfl ?_
  exact K w28 Hw28
set_option maxRecDepth 100000 in
theorem lk_18 {X : List Int32} {Q : Option Value → am_W → Prop} {w : am_W} {i : Int32} (h0 : 0 ≤ i.toInt) (h6 : i.toInt + 6 ≤ X.length) (hX : X.length ≤ 384) (H : TI w) (K : ∀ w1, TI w1 → aw (some X) 60 193 Q (1476, [some (.ref (am_B + 1)), some (.ref 0), some (.ref 65), some (.int i)], []) w1) : aw (some X) 60 193 Q (782, [some (.ref (am_B + 1)), some (.ref 0), some (.ref 65), some (.int i)], []) w := by
  refine aw_step (f1 := (783, [some (.ref (am_B + 1)), some (.ref 0), some (.ref 65), some (.int i)], [(.ref 0)])) (w1 := w) (lt_f rfl (Nat.le_of_ble_eq_true rfl)) rfl ?_
  refine aw_step (f1 := (784, [some (.ref (am_B + 1)), some (.ref 0), some (.ref 65), some (.int i)], [(.ref (am_B + 1)), (.ref 0)])) (w1 := w) (lt_f rfl (Nat.le_of_ble_eq_true rfl)) rfl ?_
  refine aw_step (f1 := (785, [some (.ref (am_B + 1)), some (.ref 0), some (.ref 65), some (.int i)], [(.int i), (.ref (am_B + 1)), (.ref 0)])) (w1 := w) (lt_f rfl (Nat.le_of_ble_eq_true rfl)) rfl ?_
  refine x_i (pc1 := 786) (ls1 := [some (.ref (am_B + 1)), some (.ref 0), some (.ref 65), some (.int i)]) (st1 := [(.int i), (.ref (am_B + 1)), (.ref 0)]) (lt_f rfl (Nat.le_of_ble_eq_true rfl)) rfl fun x1 e2 => ?_
  have e2t : x1.toInt = 1 := by rw [e2]; rfl
  refine x_i (pc1 := 787) (ls1 := [some (.ref (am_B + 1)), some (.ref 0), some (.ref 65), some (.int i)]) (st1 := [(.ref (am_B + 1)), (.ref 0)]) (lt_f rfl (Nat.le_of_ble_eq_true rfl)) rfl fun x3 e4 => ?_
  have e4 : x3 = i + x1 := e4
  have e4t : x3.toInt = i.toInt + x1.toInt := by rw [e4]; exact n_add (by omega) (by omega)
  refine x_ia 788 (lt_f rfl (Nat.le_of_ble_eq_true rfl)) rfl (by omega) (by omega) ?_
  rw [show x3.toInt = i.toInt + 1 by omega]
  show aw (some X) _ 193 _ (788, [some (.ref (am_B + 1)), some (.ref 0), some (.ref 65), some (.int i)], [(.int (sx X (i.toInt + 1))), (.ref 0)]) w
  refine aw_step (f1 := (789, [some (.ref (am_B + 1)), some (.ref 0), some (.ref 65), some (.int i)], [(.ref (am_B + 1)), (.int (sx X (i.toInt + 1))), (.ref 0)])) (w1 := w) (lt_f rfl (Nat.le_of_ble_eq_true rfl)) rfl ?_
  refine aw_step (f1 := (790, [some (.ref (am_B + 1)), some (.ref 0), some (.ref 65), some (.int i)], [(.int i), (.ref (am_B + 1)), (.int (sx X (i.toInt + 1))), (.ref 0)])) (w1 := w) (lt_f rfl (Nat.le_of_ble_eq_true rfl)) rfl ?_
  refine x_i (pc1 := 791) (ls1 := [some (.ref (am_B + 1)), some (.ref 0), some (.ref 65), some (.int i)]) (st1 := [(.int i), (.ref (am_B + 1)), (.int (sx X (i.toInt + 1))), (.ref 0)]) (lt_f rfl (Nat.le_of_ble_eq_true rfl)) rfl fun x5 e6 => ?_
  have e6t : x5.toInt = 2 := by rw [e6]; rfl
  refine x_i (pc1 := 792) (ls1 := [some (.ref (am_B + 1)), some (.ref 0), some (.ref 65), some (.int i)]) (st1 := [(.ref (am_B + 1)), (.int (sx X (i.toInt + 1))), (.ref 0)]) (lt_f rfl (Nat.le_of_ble_eq_true rfl)) rfl fun x7 e8 => ?_
  have e8 : x7 = i + x5 := e8
  have e8t : x7.toInt = i.toInt + x5.toInt := by rw [e8]; exact n_add (by omega) (by omega)
  refine x_ia 793 (lt_f rfl (Nat.le_of_ble_eq_true rfl)) rfl (by omega) (by omega) ?_
  rw [show x7.toInt = i.toInt + 2 by omega]
  show aw (some X) _ 193 _ (793, [some (.ref (am_B + 1)), some (.ref 0), some (.ref 65), some (.int i)], [(.int (sx X (i.toInt + 2))), (.int (sx X (i.toInt + 1))), (.ref 0)]) w
  refine x_l (pc1 := 794) (ls1 := [some (.ref (am_B + 1)), some (.ref 0), some (.ref 65), some (.int i)]) (st1 := [(.int (sx X (i.toInt + 1))), (.ref 0)]) (lt_f rfl (Nat.le_of_ble_eq_true rfl)) rfl fun y9 e10 => ?_
  have e10t : y9.toInt = (sx X (i.toInt + 2)).toInt := by rw [e10]; exact Int32.toInt_toInt64 (sx X (i.toInt + 2))
  refine x_i (pc1 := 796) (ls1 := [some (.ref (am_B + 1)), some (.ref 0), some (.ref 65), some (.int i)]) (st1 := [(.long y9), (.int (sx X (i.toInt + 1))), (.ref 0)]) (lt_f rfl (Nat.le_of_ble_eq_true rfl)) rfl fun x11 e12 => ?_
  have e12t : x11.toInt = 32 := by rw [e12]; rfl
  refine x_l (pc1 := 797) (ls1 := [some (.ref (am_B + 1)), some (.ref 0), some (.ref 65), some (.int i)]) (st1 := [(.int (sx X (i.toInt + 1))), (.ref 0)]) (lt_f rfl (Nat.le_of_ble_eq_true rfl)) rfl fun y13 e14 => ?_
  have e14 : y13 = y9 <<< (x11.toInt64 &&& 63) := e14
  refine aw_step (f1 := (798, [some (.ref (am_B + 1)), some (.ref 0), some (.ref 65), some (.int i)], [(.ref (am_B + 1)), (.long y13), (.int (sx X (i.toInt + 1))), (.ref 0)])) (w1 := w) (lt_f rfl (Nat.le_of_ble_eq_true rfl)) rfl ?_
  refine aw_step (f1 := (799, [some (.ref (am_B + 1)), some (.ref 0), some (.ref 65), some (.int i)], [(.int i), (.ref (am_B + 1)), (.long y13), (.int (sx X (i.toInt + 1))), (.ref 0)])) (w1 := w) (lt_f rfl (Nat.le_of_ble_eq_true rfl)) rfl ?_
  refine x_i (pc1 := 800) (ls1 := [some (.ref (am_B + 1)), some (.ref 0), some (.ref 65), some (.int i)]) (st1 := [(.int i), (.ref (am_B + 1)), (.long y13), (.int (sx X (i.toInt + 1))), (.ref 0)]) (lt_f rfl (Nat.le_of_ble_eq_true rfl)) rfl fun x15 e16 => ?_
  have e16t : x15.toInt = 3 := by rw [e16]; rfl
  refine x_i (pc1 := 801) (ls1 := [some (.ref (am_B + 1)), some (.ref 0), some (.ref 65), some (.int i)]) (st1 := [(.ref (am_B + 1)), (.long y13), (.int (sx X (i.toInt + 1))), (.ref 0)]) (lt_f rfl (Nat.le_of_ble_eq_true rfl)) rfl fun x17 e18 => ?_
  have e18 : x17 = i + x15 := e18
  have e18t : x17.toInt = i.toInt + x15.toInt := by rw [e18]; exact n_add (by omega) (by omega)
  refine x_ia 802 (lt_f rfl (Nat.le_of_ble_eq_true rfl)) rfl (by omega) (by omega) ?_
  rw [show x17.toInt = i.toInt + 3 by omega]
  show aw (some X) _ 193 _ (802, [some (.ref (am_B + 1)), some (.ref 0), some (.ref 65), some (.int i)], [(.int (sx X (i.toInt + 3))), (.long y13), (.int (sx X (i.toInt + 1))), (.ref 0)]) w
  refine x_l (pc1 := 803) (ls1 := [some (.ref (am_B + 1)), some (.ref 0), some (.ref 65), some (.int i)]) (st1 := [(.long y13), (.int (sx X (i.toInt + 1))), (.ref 0)]) (lt_f rfl (Nat.le_of_ble_eq_true rfl)) rfl fun y19 e20 => ?_
  have e20t : y19.toInt = (sx X (i.toInt + 3)).toInt := by rw [e20]; exact Int32.toInt_toInt64 (sx X (i.toInt + 3))
  refine x_l (pc1 := 806) (ls1 := [some (.ref (am_B + 1)), some (.ref 0), some (.ref 65), some (.int i)]) (st1 := [(.long y19), (.long y13), (.int (sx X (i.toInt + 1))), (.ref 0)]) (lt_f rfl (Nat.le_of_ble_eq_true rfl)) rfl fun y21 e22 => ?_
  have e22t : y21.toInt = 4294967295 := by rw [e22]; rfl
  refine x_l (pc1 := 807) (ls1 := [some (.ref (am_B + 1)), some (.ref 0), some (.ref 65), some (.int i)]) (st1 := [(.long y13), (.int (sx X (i.toInt + 1))), (.ref 0)]) (lt_f rfl (Nat.le_of_ble_eq_true rfl)) rfl fun y23 e24 => ?_
  have e24 : y23 = y19 &&& y21 := e24
  refine x_l (pc1 := 808) (ls1 := [some (.ref (am_B + 1)), some (.ref 0), some (.ref 65), some (.int i)]) (st1 := [(.int (sx X (i.toInt + 1))), (.ref 0)]) (lt_f rfl (Nat.le_of_ble_eq_true rfl)) rfl fun y25 e26 => ?_
  have e26 : y25 = y13 ||| y23 := e26
  refine aw_step (f1 := (809, [some (.ref (am_B + 1)), some (.ref 0), some (.ref 65), some (.int i)], [(.ref (am_B + 1)), (.long y25), (.int (sx X (i.toInt + 1))), (.ref 0)])) (w1 := w) (lt_f rfl (Nat.le_of_ble_eq_true rfl)) rfl ?_
  refine aw_step (f1 := (810, [some (.ref (am_B + 1)), some (.ref 0), some (.ref 65), some (.int i)], [(.int i), (.ref (am_B + 1)), (.long y25), (.int (sx X (i.toInt + 1))), (.ref 0)])) (w1 := w) (lt_f rfl (Nat.le_of_ble_eq_true rfl)) rfl ?_
  refine x_i (pc1 := 811) (ls1 := [some (.ref (am_B + 1)), some (.ref 0), some (.ref 65), some (.int i)]) (st1 := [(.int i), (.ref (am_B + 1)), (.long y25), (.int (sx X (i.toInt + 1))), (.ref 0)]) (lt_f rfl (Nat.le_of_ble_eq_true rfl)) rfl fun x27 e28 => ?_
  have e28t : x27.toInt = 4 := by rw [e28]; rfl
  refine x_i (pc1 := 812) (ls1 := [some (.ref (am_B + 1)), some (.ref 0), some (.ref 65), some (.int i)]) (st1 := [(.ref (am_B + 1)), (.long y25), (.int (sx X (i.toInt + 1))), (.ref 0)]) (lt_f rfl (Nat.le_of_ble_eq_true rfl)) rfl fun x29 e30 => ?_
  have e30 : x29 = i + x27 := e30
  have e30t : x29.toInt = i.toInt + x27.toInt := by rw [e30]; exact n_add (by omega) (by omega)
  refine x_ia 813 (lt_f rfl (Nat.le_of_ble_eq_true rfl)) rfl (by omega) (by omega) ?_
  rw [show x29.toInt = i.toInt + 4 by omega]
  show aw (some X) _ 193 _ (813, [some (.ref (am_B + 1)), some (.ref 0), some (.ref 65), some (.int i)], [(.int (sx X (i.toInt + 4))), (.long y25), (.int (sx X (i.toInt + 1))), (.ref 0)]) w
  refine x_cv (z := 78) (p := 0) (as := [(.int (sx X (i.toInt + 1))), (.long y25), (.int (sx X (i.toInt + 4)))]) (st1 := []) (H.inv) 816 (lt_f rfl (Nat.le_of_ble_eq_true rfl)) rfl rfl rfl rfl rfl rfl rfl (Nat.le_of_ble_eq_true rfl) (Nat.le_of_ble_eq_true rfl) ((tc_errands (sx X (i.toInt + 1)) y25 (sx X (i.toInt + 4)) H).deep (by omega)) ?_
  rintro _ w32 ⟨⟨Hw32, w32l⟩, x31, rfl⟩
  refine ⟨w32l, ?_⟩
  show aw (some X) _ 193 _ (816, [some (.ref (am_B + 1)), some (.ref 0), some (.ref 65), some (.int i)], [(.int x31)]) w32
  refine aw_step (f1 := (817, [some (.ref (am_B + 1)), some (.ref 0), some (.ref 65), some (.int i)], [])) (w1 := w32) (lt_f rfl (Nat.le_of_ble_eq_true rfl)) rfl ?_
  refine aw_step (f1 := (818, [some (.ref (am_B + 1)), some (.ref 0), some (.ref 65), some (.int i)], [(.ref 65)])) (w1 := w32) (lt_f rfl (Nat.le_of_ble_eq_true rfl)) rfl ?_
  refine aw_step (f1 := (819, [some (.ref (am_B + 1)), some (.ref 0), some (.ref 65), some (.int i)], [(.ref (am_B + 1)), (.ref 65)])) (w1 := w32) (lt_f rfl (Nat.le_of_ble_eq_true rfl)) rfl ?_
  refine aw_step (f1 := (820, [some (.ref (am_B + 1)), some (.ref 0), some (.ref 65), some (.int i)], [(.int i), (.ref (am_B + 1)), (.ref 65)])) (w1 := w32) (lt_f rfl (Nat.le_of_ble_eq_true rfl)) rfl ?_
  refine x_i (pc1 := 821) (ls1 := [some (.ref (am_B + 1)), some (.ref 0), some (.ref 65), some (.int i)]) (st1 := [(.int i), (.ref (am_B + 1)), (.ref 65)]) (lt_f rfl (Nat.le_of_ble_eq_true rfl)) rfl fun x33 e34 => ?_
  have e34t : x33.toInt = 1 := by rw [e34]; rfl
  refine x_i (pc1 := 822) (ls1 := [some (.ref (am_B + 1)), some (.ref 0), some (.ref 65), some (.int i)]) (st1 := [(.ref (am_B + 1)), (.ref 65)]) (lt_f rfl (Nat.le_of_ble_eq_true rfl)) rfl fun x35 e36 => ?_
  have e36 : x35 = i + x33 := e36
  have e36t : x35.toInt = i.toInt + x33.toInt := by rw [e36]; exact n_add (by omega) (by omega)
  refine x_ia 823 (lt_f rfl (Nat.le_of_ble_eq_true rfl)) rfl (by omega) (by omega) ?_
  rw [show x35.toInt = i.toInt + 1 by omega]
  show aw (some X) _ 193 _ (823, [some (.ref (am_B + 1)), some (.ref 0), some (.ref 65), some (.int i)], [(.int (sx X (i.toInt + 1))), (.ref 65)]) w32
  refine aw_step (f1 := (824, [some (.ref (am_B + 1)), some (.ref 0), some (.ref 65), some (.int i)], [(.ref (am_B + 1)), (.int (sx X (i.toInt + 1))), (.ref 65)])) (w1 := w32) (lt_f rfl (Nat.le_of_ble_eq_true rfl)) rfl ?_
  refine aw_step (f1 := (825, [some (.ref (am_B + 1)), some (.ref 0), some (.ref 65), some (.int i)], [(.int i), (.ref (am_B + 1)), (.int (sx X (i.toInt + 1))), (.ref 65)])) (w1 := w32) (lt_f rfl (Nat.le_of_ble_eq_true rfl)) rfl ?_
  refine x_i (pc1 := 826) (ls1 := [some (.ref (am_B + 1)), some (.ref 0), some (.ref 65), some (.int i)]) (st1 := [(.int i), (.ref (am_B + 1)), (.int (sx X (i.toInt + 1))), (.ref 65)]) (lt_f rfl (Nat.le_of_ble_eq_true rfl)) rfl fun x37 e38 => ?_
  have e38t : x37.toInt = 2 := by rw [e38]; rfl
  refine x_i (pc1 := 827) (ls1 := [some (.ref (am_B + 1)), some (.ref 0), some (.ref 65), some (.int i)]) (st1 := [(.ref (am_B + 1)), (.int (sx X (i.toInt + 1))), (.ref 65)]) (lt_f rfl (Nat.le_of_ble_eq_true rfl)) rfl fun x39 e40 => ?_
  have e40 : x39 = i + x37 := e40
  have e40t : x39.toInt = i.toInt + x37.toInt := by rw [e40]; exact n_add (by omega) (by omega)
  refine x_ia 828 (lt_f rfl (Nat.le_of_ble_eq_true rfl)) rfl (by omega) (by omega) ?_
  rw [show x39.toInt = i.toInt + 2 by omega]
  show aw (some X) _ 193 _ (828, [some (.ref (am_B + 1)), some (.ref 0), some (.ref 65), some (.int i)], [(.int (sx X (i.toInt + 2))), (.int (sx X (i.toInt + 1))), (.ref 65)]) w32
  refine x_l (pc1 := 829) (ls1 := [some (.ref (am_B + 1)), some (.ref 0), some (.ref 65), some (.int i)]) (st1 := [(.int (sx X (i.toInt + 1))), (.ref 65)]) (lt_f rfl (Nat.le_of_ble_eq_true rfl)) rfl fun y41 e42 => ?_
  have e42t : y41.toInt = (sx X (i.toInt + 2)).toInt := by rw [e42]; exact Int32.toInt_toInt64 (sx X (i.toInt + 2))
  refine x_i (pc1 := 831) (ls1 := [some (.ref (am_B + 1)), some (.ref 0), some (.ref 65), some (.int i)]) (st1 := [(.long y41), (.int (sx X (i.toInt + 1))), (.ref 65)]) (lt_f rfl (Nat.le_of_ble_eq_true rfl)) rfl fun x43 e44 => ?_
  have e44t : x43.toInt = 32 := by rw [e44]; rfl
  refine x_l (pc1 := 832) (ls1 := [some (.ref (am_B + 1)), some (.ref 0), some (.ref 65), some (.int i)]) (st1 := [(.int (sx X (i.toInt + 1))), (.ref 65)]) (lt_f rfl (Nat.le_of_ble_eq_true rfl)) rfl fun y45 e46 => ?_
  have e46 : y45 = y41 <<< (x43.toInt64 &&& 63) := e46
  refine aw_step (f1 := (833, [some (.ref (am_B + 1)), some (.ref 0), some (.ref 65), some (.int i)], [(.ref (am_B + 1)), (.long y45), (.int (sx X (i.toInt + 1))), (.ref 65)])) (w1 := w32) (lt_f rfl (Nat.le_of_ble_eq_true rfl)) rfl ?_
  refine aw_step (f1 := (834, [some (.ref (am_B + 1)), some (.ref 0), some (.ref 65), some (.int i)], [(.int i), (.ref (am_B + 1)), (.long y45), (.int (sx X (i.toInt + 1))), (.ref 65)])) (w1 := w32) (lt_f rfl (Nat.le_of_ble_eq_true rfl)) rfl ?_
  refine x_i (pc1 := 835) (ls1 := [some (.ref (am_B + 1)), some (.ref 0), some (.ref 65), some (.int i)]) (st1 := [(.int i), (.ref (am_B + 1)), (.long y45), (.int (sx X (i.toInt + 1))), (.ref 65)]) (lt_f rfl (Nat.le_of_ble_eq_true rfl)) rfl fun x47 e48 => ?_
  have e48t : x47.toInt = 3 := by rw [e48]; rfl
  refine x_i (pc1 := 836) (ls1 := [some (.ref (am_B + 1)), some (.ref 0), some (.ref 65), some (.int i)]) (st1 := [(.ref (am_B + 1)), (.long y45), (.int (sx X (i.toInt + 1))), (.ref 65)]) (lt_f rfl (Nat.le_of_ble_eq_true rfl)) rfl fun x49 e50 => ?_
  have e50 : x49 = i + x47 := e50
  have e50t : x49.toInt = i.toInt + x47.toInt := by rw [e50]; exact n_add (by omega) (by omega)
  refine x_ia 837 (lt_f rfl (Nat.le_of_ble_eq_true rfl)) rfl (by omega) (by omega) ?_
  rw [show x49.toInt = i.toInt + 3 by omega]
  show aw (some X) _ 193 _ (837, [some (.ref (am_B + 1)), some (.ref 0), some (.ref 65), some (.int i)], [(.int (sx X (i.toInt + 3))), (.long y45), (.int (sx X (i.toInt + 1))), (.ref 65)]) w32
  refine x_l (pc1 := 838) (ls1 := [some (.ref (am_B + 1)), some (.ref 0), some (.ref 65), some (.int i)]) (st1 := [(.long y45), (.int (sx X (i.toInt + 1))), (.ref 65)]) (lt_f rfl (Nat.le_of_ble_eq_true rfl)) rfl fun y51 e52 => ?_
  have e52t : y51.toInt = (sx X (i.toInt + 3)).toInt := by rw [e52]; exact Int32.toInt_toInt64 (sx X (i.toInt + 3))
  refine x_l (pc1 := 841) (ls1 := [some (.ref (am_B + 1)), some (.ref 0), some (.ref 65), some (.int i)]) (st1 := [(.long y51), (.long y45), (.int (sx X (i.toInt + 1))), (.ref 65)]) (lt_f rfl (Nat.le_of_ble_eq_true rfl)) rfl fun y53 e54 => ?_
  have e54t : y53.toInt = 4294967295 := by rw [e54]; rfl
  refine x_l (pc1 := 842) (ls1 := [some (.ref (am_B + 1)), some (.ref 0), some (.ref 65), some (.int i)]) (st1 := [(.long y45), (.int (sx X (i.toInt + 1))), (.ref 65)]) (lt_f rfl (Nat.le_of_ble_eq_true rfl)) rfl fun y55 e56 => ?_
  have e56 : y55 = y51 &&& y53 := e56
  refine x_l (pc1 := 843) (ls1 := [some (.ref (am_B + 1)), some (.ref 0), some (.ref 65), some (.int i)]) (st1 := [(.int (sx X (i.toInt + 1))), (.ref 65)]) (lt_f rfl (Nat.le_of_ble_eq_true rfl)) rfl fun y57 e58 => ?_
  have e58 : y57 = y45 ||| y55 := e58
  refine aw_step (f1 := (844, [some (.ref (am_B + 1)), some (.ref 0), some (.ref 65), some (.int i)], [(.ref (am_B + 1)), (.long y57), (.int (sx X (i.toInt + 1))), (.ref 65)])) (w1 := w32) (lt_f rfl (Nat.le_of_ble_eq_true rfl)) rfl ?_
  refine aw_step (f1 := (845, [some (.ref (am_B + 1)), some (.ref 0), some (.ref 65), some (.int i)], [(.int i), (.ref (am_B + 1)), (.long y57), (.int (sx X (i.toInt + 1))), (.ref 65)])) (w1 := w32) (lt_f rfl (Nat.le_of_ble_eq_true rfl)) rfl ?_
  refine x_i (pc1 := 846) (ls1 := [some (.ref (am_B + 1)), some (.ref 0), some (.ref 65), some (.int i)]) (st1 := [(.int i), (.ref (am_B + 1)), (.long y57), (.int (sx X (i.toInt + 1))), (.ref 65)]) (lt_f rfl (Nat.le_of_ble_eq_true rfl)) rfl fun x59 e60 => ?_
  have e60t : x59.toInt = 4 := by rw [e60]; rfl
  refine x_i (pc1 := 847) (ls1 := [some (.ref (am_B + 1)), some (.ref 0), some (.ref 65), some (.int i)]) (st1 := [(.ref (am_B + 1)), (.long y57), (.int (sx X (i.toInt + 1))), (.ref 65)]) (lt_f rfl (Nat.le_of_ble_eq_true rfl)) rfl fun x61 e62 => ?_
  have e62 : x61 = i + x59 := e62
  have e62t : x61.toInt = i.toInt + x59.toInt := by rw [e62]; exact n_add (by omega) (by omega)
  refine x_ia 848 (lt_f rfl (Nat.le_of_ble_eq_true rfl)) rfl (by omega) (by omega) ?_
  rw [show x61.toInt = i.toInt + 4 by omega]
  show aw (some X) _ 193 _ (848, [some (.ref (am_B + 1)), some (.ref 0), some (.ref 65), some (.int i)], [(.int (sx X (i.toInt + 4))), (.long y57), (.int (sx X (i.toInt + 1))), (.ref 65)]) w32
  refine x_cv (z := 155) (p := 65) (as := [(.int (sx X (i.toInt + 1))), (.long y57), (.int (sx X (i.toInt + 4)))]) (st1 := []) (Hw32.inv) 851 (lt_f rfl (Nat.le_of_ble_eq_true rfl)) rfl rfl rfl rfl rfl rfl rfl (Nat.le_of_ble_eq_true rfl) (Nat.le_of_ble_eq_true rfl) ((tm_errands (sx X (i.toInt + 1)) y57 (sx X (i.toInt + 4)) Hw32).deep (by omega)) ?_
  rintro _ w64 ⟨⟨Hw64, w64l⟩, x63, rfl⟩
  refine ⟨w64l, ?_⟩
  show aw (some X) _ 193 _ (851, [some (.ref (am_B + 1)), some (.ref 0), some (.ref 65), some (.int i)], [(.int x63)]) w64
  refine aw_step (f1 := (852, [some (.ref (am_B + 1)), some (.ref 0), some (.ref 65), some (.int i)], [])) (w1 := w64) (lt_f rfl (Nat.le_of_ble_eq_true rfl)) rfl ?_
  refine aw_step (f1 := (1476, [some (.ref (am_B + 1)), some (.ref 0), some (.ref 65), some (.int i)], [])) (w1 := w64) (lt_f rfl (Nat.le_of_ble_eq_true rfl)) rfl ?_
  exact K w64 Hw64
set_option maxRecDepth 100000 in
theorem lk_19 {X : List Int32} {Q : Option Value → am_W → Prop} {w : am_W} {i : Int32} (h0 : 0 ≤ i.toInt) (h6 : i.toInt + 6 ≤ X.length) (hX : X.length ≤ 384) (H : TI w) (K : ∀ w1, TI w1 → aw (some X) 60 193 Q (1476, [some (.ref (am_B + 1)), some (.ref 0), some (.ref 65), some (.int i)], []) w1) : aw (some X) 60 193 Q (855, [some (.ref (am_B + 1)), some (.ref 0), some (.ref 65), some (.int i)], []) w := by
  refine aw_step (f1 := (856, [some (.ref (am_B + 1)), some (.ref 0), some (.ref 65), some (.int i)], [(.ref 0)])) (w1 := w) (lt_f rfl (Nat.le_of_ble_eq_true rfl)) rfl ?_
  refine aw_step (f1 := (857, [some (.ref (am_B + 1)), some (.ref 0), some (.ref 65), some (.int i)], [(.ref (am_B + 1)), (.ref 0)])) (w1 := w) (lt_f rfl (Nat.le_of_ble_eq_true rfl)) rfl ?_
  refine aw_step (f1 := (858, [some (.ref (am_B + 1)), some (.ref 0), some (.ref 65), some (.int i)], [(.int i), (.ref (am_B + 1)), (.ref 0)])) (w1 := w) (lt_f rfl (Nat.le_of_ble_eq_true rfl)) rfl ?_
  refine x_i (pc1 := 859) (ls1 := [some (.ref (am_B + 1)), some (.ref 0), some (.ref 65), some (.int i)]) (st1 := [(.int i), (.ref (am_B + 1)), (.ref 0)]) (lt_f rfl (Nat.le_of_ble_eq_true rfl)) rfl fun x1 e2 => ?_
  have e2t : x1.toInt = 1 := by rw [e2]; rfl
  refine x_i (pc1 := 860) (ls1 := [some (.ref (am_B + 1)), some (.ref 0), some (.ref 65), some (.int i)]) (st1 := [(.ref (am_B + 1)), (.ref 0)]) (lt_f rfl (Nat.le_of_ble_eq_true rfl)) rfl fun x3 e4 => ?_
  have e4 : x3 = i + x1 := e4
  have e4t : x3.toInt = i.toInt + x1.toInt := by rw [e4]; exact n_add (by omega) (by omega)
  refine x_ia 861 (lt_f rfl (Nat.le_of_ble_eq_true rfl)) rfl (by omega) (by omega) ?_
  rw [show x3.toInt = i.toInt + 1 by omega]
  show aw (some X) _ 193 _ (861, [some (.ref (am_B + 1)), some (.ref 0), some (.ref 65), some (.int i)], [(.int (sx X (i.toInt + 1))), (.ref 0)]) w
  refine aw_step (f1 := (862, [some (.ref (am_B + 1)), some (.ref 0), some (.ref 65), some (.int i)], [(.ref (am_B + 1)), (.int (sx X (i.toInt + 1))), (.ref 0)])) (w1 := w) (lt_f rfl (Nat.le_of_ble_eq_true rfl)) rfl ?_
  refine aw_step (f1 := (863, [some (.ref (am_B + 1)), some (.ref 0), some (.ref 65), some (.int i)], [(.int i), (.ref (am_B + 1)), (.int (sx X (i.toInt + 1))), (.ref 0)])) (w1 := w) (lt_f rfl (Nat.le_of_ble_eq_true rfl)) rfl ?_
  refine x_i (pc1 := 864) (ls1 := [some (.ref (am_B + 1)), some (.ref 0), some (.ref 65), some (.int i)]) (st1 := [(.int i), (.ref (am_B + 1)), (.int (sx X (i.toInt + 1))), (.ref 0)]) (lt_f rfl (Nat.le_of_ble_eq_true rfl)) rfl fun x5 e6 => ?_
  have e6t : x5.toInt = 2 := by rw [e6]; rfl
  refine x_i (pc1 := 865) (ls1 := [some (.ref (am_B + 1)), some (.ref 0), some (.ref 65), some (.int i)]) (st1 := [(.ref (am_B + 1)), (.int (sx X (i.toInt + 1))), (.ref 0)]) (lt_f rfl (Nat.le_of_ble_eq_true rfl)) rfl fun x7 e8 => ?_
  have e8 : x7 = i + x5 := e8
  have e8t : x7.toInt = i.toInt + x5.toInt := by rw [e8]; exact n_add (by omega) (by omega)
  refine x_ia 866 (lt_f rfl (Nat.le_of_ble_eq_true rfl)) rfl (by omega) (by omega) ?_
  rw [show x7.toInt = i.toInt + 2 by omega]
  show aw (some X) _ 193 _ (866, [some (.ref (am_B + 1)), some (.ref 0), some (.ref 65), some (.int i)], [(.int (sx X (i.toInt + 2))), (.int (sx X (i.toInt + 1))), (.ref 0)]) w
  refine aw_step (f1 := (867, [some (.ref (am_B + 1)), some (.ref 0), some (.ref 65), some (.int i)], [(.ref (am_B + 1)), (.int (sx X (i.toInt + 2))), (.int (sx X (i.toInt + 1))), (.ref 0)])) (w1 := w) (lt_f rfl (Nat.le_of_ble_eq_true rfl)) rfl ?_
  refine aw_step (f1 := (868, [some (.ref (am_B + 1)), some (.ref 0), some (.ref 65), some (.int i)], [(.int i), (.ref (am_B + 1)), (.int (sx X (i.toInt + 2))), (.int (sx X (i.toInt + 1))), (.ref 0)])) (w1 := w) (lt_f rfl (Nat.le_of_ble_eq_true rfl)) rfl ?_
  refine x_i (pc1 := 869) (ls1 := [some (.ref (am_B + 1)), some (.ref 0), some (.ref 65), some (.int i)]) (st1 := [(.int i), (.ref (am_B + 1)), (.int (sx X (i.toInt + 2))), (.int (sx X (i.toInt + 1))), (.ref 0)]) (lt_f rfl (Nat.le_of_ble_eq_true rfl)) rfl fun x9 e10 => ?_
  have e10t : x9.toInt = 3 := by rw [e10]; rfl
  refine x_i (pc1 := 870) (ls1 := [some (.ref (am_B + 1)), some (.ref 0), some (.ref 65), some (.int i)]) (st1 := [(.ref (am_B + 1)), (.int (sx X (i.toInt + 2))), (.int (sx X (i.toInt + 1))), (.ref 0)]) (lt_f rfl (Nat.le_of_ble_eq_true rfl)) rfl fun x11 e12 => ?_
  have e12 : x11 = i + x9 := e12
  have e12t : x11.toInt = i.toInt + x9.toInt := by rw [e12]; exact n_add (by omega) (by omega)
  refine x_ia 871 (lt_f rfl (Nat.le_of_ble_eq_true rfl)) rfl (by omega) (by omega) ?_
  rw [show x11.toInt = i.toInt + 3 by omega]
  show aw (some X) _ 193 _ (871, [some (.ref (am_B + 1)), some (.ref 0), some (.ref 65), some (.int i)], [(.int (sx X (i.toInt + 3))), (.int (sx X (i.toInt + 2))), (.int (sx X (i.toInt + 1))), (.ref 0)]) w
  refine x_cv (z := 79) (p := 0) (as := [(.int (sx X (i.toInt + 1))), (.int (sx X (i.toInt + 2))), (.int (sx X (i.toInt + 3)))]) (st1 := []) (H.inv) 874 (lt_f rfl (Nat.le_of_ble_eq_true rfl)) rfl rfl rfl rfl rfl rfl rfl (Nat.le_of_ble_eq_true rfl) (Nat.le_of_ble_eq_true rfl) ((tc_person (sx X (i.toInt + 1)) (sx X (i.toInt + 2)) (sx X (i.toInt + 3)) H).deep (by omega)) ?_
  rintro _ w14 ⟨⟨Hw14, w14l⟩, x13, rfl, w14M⟩
  refine ⟨w14l, ?_⟩
  show aw (some X) _ 193 _ (874, [some (.ref (am_B + 1)), some (.ref 0), some (.ref 65), some (.int i)], [(.int x13)]) w14
  refine aw_step (f1 := (875, [some (.ref (am_B + 1)), some (.ref 0), some (.ref 65), some (.int i)], [])) (w1 := w14) (lt_f rfl (Nat.le_of_ble_eq_true rfl)) rfl ?_
  refine aw_step (f1 := (876, [some (.ref (am_B + 1)), some (.ref 0), some (.ref 65), some (.int i)], [(.ref 65)])) (w1 := w14) (lt_f rfl (Nat.le_of_ble_eq_true rfl)) rfl ?_
  refine aw_step (f1 := (877, [some (.ref (am_B + 1)), some (.ref 0), some (.ref 65), some (.int i)], [(.ref (am_B + 1)), (.ref 65)])) (w1 := w14) (lt_f rfl (Nat.le_of_ble_eq_true rfl)) rfl ?_
  refine aw_step (f1 := (878, [some (.ref (am_B + 1)), some (.ref 0), some (.ref 65), some (.int i)], [(.int i), (.ref (am_B + 1)), (.ref 65)])) (w1 := w14) (lt_f rfl (Nat.le_of_ble_eq_true rfl)) rfl ?_
  refine x_i (pc1 := 879) (ls1 := [some (.ref (am_B + 1)), some (.ref 0), some (.ref 65), some (.int i)]) (st1 := [(.int i), (.ref (am_B + 1)), (.ref 65)]) (lt_f rfl (Nat.le_of_ble_eq_true rfl)) rfl fun x15 e16 => ?_
  have e16t : x15.toInt = 1 := by rw [e16]; rfl
  refine x_i (pc1 := 880) (ls1 := [some (.ref (am_B + 1)), some (.ref 0), some (.ref 65), some (.int i)]) (st1 := [(.ref (am_B + 1)), (.ref 65)]) (lt_f rfl (Nat.le_of_ble_eq_true rfl)) rfl fun x17 e18 => ?_
  have e18 : x17 = i + x15 := e18
  have e18t : x17.toInt = i.toInt + x15.toInt := by rw [e18]; exact n_add (by omega) (by omega)
  refine x_ia 881 (lt_f rfl (Nat.le_of_ble_eq_true rfl)) rfl (by omega) (by omega) ?_
  rw [show x17.toInt = i.toInt + 1 by omega]
  show aw (some X) _ 193 _ (881, [some (.ref (am_B + 1)), some (.ref 0), some (.ref 65), some (.int i)], [(.int (sx X (i.toInt + 1))), (.ref 65)]) w14
  refine aw_step (f1 := (882, [some (.ref (am_B + 1)), some (.ref 0), some (.ref 65), some (.int i)], [(.ref (am_B + 1)), (.int (sx X (i.toInt + 1))), (.ref 65)])) (w1 := w14) (lt_f rfl (Nat.le_of_ble_eq_true rfl)) rfl ?_
  refine aw_step (f1 := (883, [some (.ref (am_B + 1)), some (.ref 0), some (.ref 65), some (.int i)], [(.int i), (.ref (am_B + 1)), (.int (sx X (i.toInt + 1))), (.ref 65)])) (w1 := w14) (lt_f rfl (Nat.le_of_ble_eq_true rfl)) rfl ?_
  refine x_i (pc1 := 884) (ls1 := [some (.ref (am_B + 1)), some (.ref 0), some (.ref 65), some (.int i)]) (st1 := [(.int i), (.ref (am_B + 1)), (.int (sx X (i.toInt + 1))), (.ref 65)]) (lt_f rfl (Nat.le_of_ble_eq_true rfl)) rfl fun x19 e20 => ?_
  have e20t : x19.toInt = 2 := by rw [e20]; rfl
  refine x_i (pc1 := 885) (ls1 := [some (.ref (am_B + 1)), some (.ref 0), some (.ref 65), some (.int i)]) (st1 := [(.ref (am_B + 1)), (.int (sx X (i.toInt + 1))), (.ref 65)]) (lt_f rfl (Nat.le_of_ble_eq_true rfl)) rfl fun x21 e22 => ?_
  have e22 : x21 = i + x19 := e22
  have e22t : x21.toInt = i.toInt + x19.toInt := by rw [e22]; exact n_add (by omega) (by omega)
  refine x_ia 886 (lt_f rfl (Nat.le_of_ble_eq_true rfl)) rfl (by omega) (by omega) ?_
  rw [show x21.toInt = i.toInt + 2 by omega]
  show aw (some X) _ 193 _ (886, [some (.ref (am_B + 1)), some (.ref 0), some (.ref 65), some (.int i)], [(.int (sx X (i.toInt + 2))), (.int (sx X (i.toInt + 1))), (.ref 65)]) w14
  refine aw_step (f1 := (887, [some (.ref (am_B + 1)), some (.ref 0), some (.ref 65), some (.int i)], [(.ref (am_B + 1)), (.int (sx X (i.toInt + 2))), (.int (sx X (i.toInt + 1))), (.ref 65)])) (w1 := w14) (lt_f rfl (Nat.le_of_ble_eq_true rfl)) rfl ?_
  refine aw_step (f1 := (888, [some (.ref (am_B + 1)), some (.ref 0), some (.ref 65), some (.int i)], [(.int i), (.ref (am_B + 1)), (.int (sx X (i.toInt + 2))), (.int (sx X (i.toInt + 1))), (.ref 65)])) (w1 := w14) (lt_f rfl (Nat.le_of_ble_eq_true rfl)) rfl ?_
  refine x_i (pc1 := 889) (ls1 := [some (.ref (am_B + 1)), some (.ref 0), some (.ref 65), some (.int i)]) (st1 := [(.int i), (.ref (am_B + 1)), (.int (sx X (i.toInt + 2))), (.int (sx X (i.toInt + 1))), (.ref 65)]) (lt_f rfl (Nat.le_of_ble_eq_true rfl)) rfl fun x23 e24 => ?_
  have e24t : x23.toInt = 3 := by rw [e24]; rfl
  refine x_i (pc1 := 890) (ls1 := [some (.ref (am_B + 1)), some (.ref 0), some (.ref 65), some (.int i)]) (st1 := [(.ref (am_B + 1)), (.int (sx X (i.toInt + 2))), (.int (sx X (i.toInt + 1))), (.ref 65)]) (lt_f rfl (Nat.le_of_ble_eq_true rfl)) rfl fun x25 e26 => ?_
  have e26 : x25 = i + x23 := e26
  have e26t : x25.toInt = i.toInt + x23.toInt := by rw [e26]; exact n_add (by omega) (by omega)
  refine x_ia 891 (lt_f rfl (Nat.le_of_ble_eq_true rfl)) rfl (by omega) (by omega) ?_
  rw [show x25.toInt = i.toInt + 3 by omega]
  show aw (some X) _ 193 _ (891, [some (.ref (am_B + 1)), some (.ref 0), some (.ref 65), some (.int i)], [(.int (sx X (i.toInt + 3))), (.int (sx X (i.toInt + 2))), (.int (sx X (i.toInt + 1))), (.ref 65)]) w14
  refine x_cv (z := 157) (p := 65) (as := [(.int (sx X (i.toInt + 1))), (.int (sx X (i.toInt + 2))), (.int (sx X (i.toInt + 3)))]) (st1 := []) (Hw14) 894 (lt_f rfl (Nat.le_of_ble_eq_true rfl)) rfl rfl rfl rfl rfl rfl rfl (Nat.le_of_ble_eq_true rfl) (Nat.le_of_ble_eq_true rfl) ((tm_person (sx X (i.toInt + 1)) (sx X (i.toInt + 2)) (sx X (i.toInt + 3)) (b := x13.toInt) (w14M)).deep (by omega)) ?_
  rintro _ w28 ⟨⟨Hw28, w28l⟩, x27, rfl, x27t⟩
  refine ⟨w28l, ?_⟩
  show aw (some X) _ 193 _ (894, [some (.ref (am_B + 1)), some (.ref 0), some (.ref 65), some (.int i)], [(.int x27)]) w28
  refine aw_step (f1 := (895, [some (.ref (am_B + 1)), some (.ref 0), some (.ref 65), some (.int i)], [])) (w1 := w28) (lt_f rfl (Nat.le_of_ble_eq_true rfl)) rfl ?_
  refine aw_step (f1 := (1476, [some (.ref (am_B + 1)), some (.ref 0), some (.ref 65), some (.int i)], [])) (w1 := w28) (lt_f rfl (Nat.le_of_ble_eq_true rfl)) rfl ?_
  exact K w28 Hw28
set_option maxRecDepth 100000 in
theorem lk_20 {X : List Int32} {Q : Option Value → am_W → Prop} {w : am_W} {i : Int32} (h0 : 0 ≤ i.toInt) (h6 : i.toInt + 6 ≤ X.length) (hX : X.length ≤ 384) (H : TI w) (K : ∀ w1, TI w1 → aw (some X) 60 193 Q (1476, [some (.ref (am_B + 1)), some (.ref 0), some (.ref 65), some (.int i)], []) w1) : aw (some X) 60 193 Q (898, [some (.ref (am_B + 1)), some (.ref 0), some (.ref 65), some (.int i)], []) w := by
  refine aw_step (f1 := (899, [some (.ref (am_B + 1)), some (.ref 0), some (.ref 65), some (.int i)], [(.ref 0)])) (w1 := w) (lt_f rfl (Nat.le_of_ble_eq_true rfl)) rfl ?_
  refine aw_step (f1 := (900, [some (.ref (am_B + 1)), some (.ref 0), some (.ref 65), some (.int i)], [(.ref (am_B + 1)), (.ref 0)])) (w1 := w) (lt_f rfl (Nat.le_of_ble_eq_true rfl)) rfl ?_
  refine aw_step (f1 := (901, [some (.ref (am_B + 1)), some (.ref 0), some (.ref 65), some (.int i)], [(.int i), (.ref (am_B + 1)), (.ref 0)])) (w1 := w) (lt_f rfl (Nat.le_of_ble_eq_true rfl)) rfl ?_
  refine x_i (pc1 := 902) (ls1 := [some (.ref (am_B + 1)), some (.ref 0), some (.ref 65), some (.int i)]) (st1 := [(.int i), (.ref (am_B + 1)), (.ref 0)]) (lt_f rfl (Nat.le_of_ble_eq_true rfl)) rfl fun x1 e2 => ?_
  have e2t : x1.toInt = 1 := by rw [e2]; rfl
  refine x_i (pc1 := 903) (ls1 := [some (.ref (am_B + 1)), some (.ref 0), some (.ref 65), some (.int i)]) (st1 := [(.ref (am_B + 1)), (.ref 0)]) (lt_f rfl (Nat.le_of_ble_eq_true rfl)) rfl fun x3 e4 => ?_
  have e4 : x3 = i + x1 := e4
  have e4t : x3.toInt = i.toInt + x1.toInt := by rw [e4]; exact n_add (by omega) (by omega)
  refine x_ia 904 (lt_f rfl (Nat.le_of_ble_eq_true rfl)) rfl (by omega) (by omega) ?_
  rw [show x3.toInt = i.toInt + 1 by omega]
  show aw (some X) _ 193 _ (904, [some (.ref (am_B + 1)), some (.ref 0), some (.ref 65), some (.int i)], [(.int (sx X (i.toInt + 1))), (.ref 0)]) w
  refine x_cv (z := 80) (p := 0) (as := [(.int (sx X (i.toInt + 1)))]) (st1 := []) (H.inv) 907 (lt_f rfl (Nat.le_of_ble_eq_true rfl)) rfl rfl rfl rfl rfl rfl rfl (Nat.le_of_ble_eq_true rfl) (Nat.le_of_ble_eq_true rfl) ((tc_leave (sx X (i.toInt + 1)) H).deep (by omega)) ?_
  rintro _ w6 ⟨⟨Hw6, w6l⟩, x5, rfl, w6M⟩
  refine ⟨w6l, ?_⟩
  show aw (some X) _ 193 _ (907, [some (.ref (am_B + 1)), some (.ref 0), some (.ref 65), some (.int i)], [(.int x5)]) w6
  refine aw_step (f1 := (908, [some (.ref (am_B + 1)), some (.ref 0), some (.ref 65), some (.int i)], [])) (w1 := w6) (lt_f rfl (Nat.le_of_ble_eq_true rfl)) rfl ?_
  refine aw_step (f1 := (909, [some (.ref (am_B + 1)), some (.ref 0), some (.ref 65), some (.int i)], [(.ref 65)])) (w1 := w6) (lt_f rfl (Nat.le_of_ble_eq_true rfl)) rfl ?_
  refine aw_step (f1 := (910, [some (.ref (am_B + 1)), some (.ref 0), some (.ref 65), some (.int i)], [(.ref (am_B + 1)), (.ref 65)])) (w1 := w6) (lt_f rfl (Nat.le_of_ble_eq_true rfl)) rfl ?_
  refine aw_step (f1 := (911, [some (.ref (am_B + 1)), some (.ref 0), some (.ref 65), some (.int i)], [(.int i), (.ref (am_B + 1)), (.ref 65)])) (w1 := w6) (lt_f rfl (Nat.le_of_ble_eq_true rfl)) rfl ?_
  refine x_i (pc1 := 912) (ls1 := [some (.ref (am_B + 1)), some (.ref 0), some (.ref 65), some (.int i)]) (st1 := [(.int i), (.ref (am_B + 1)), (.ref 65)]) (lt_f rfl (Nat.le_of_ble_eq_true rfl)) rfl fun x7 e8 => ?_
  have e8t : x7.toInt = 1 := by rw [e8]; rfl
  refine x_i (pc1 := 913) (ls1 := [some (.ref (am_B + 1)), some (.ref 0), some (.ref 65), some (.int i)]) (st1 := [(.ref (am_B + 1)), (.ref 65)]) (lt_f rfl (Nat.le_of_ble_eq_true rfl)) rfl fun x9 e10 => ?_
  have e10 : x9 = i + x7 := e10
  have e10t : x9.toInt = i.toInt + x7.toInt := by rw [e10]; exact n_add (by omega) (by omega)
  refine x_ia 914 (lt_f rfl (Nat.le_of_ble_eq_true rfl)) rfl (by omega) (by omega) ?_
  rw [show x9.toInt = i.toInt + 1 by omega]
  show aw (some X) _ 193 _ (914, [some (.ref (am_B + 1)), some (.ref 0), some (.ref 65), some (.int i)], [(.int (sx X (i.toInt + 1))), (.ref 65)]) w6
  refine x_cv (z := 158) (p := 65) (as := [(.int (sx X (i.toInt + 1)))]) (st1 := []) (Hw6) 917 (lt_f rfl (Nat.le_of_ble_eq_true rfl)) rfl rfl rfl rfl rfl rfl rfl (Nat.le_of_ble_eq_true rfl) (Nat.le_of_ble_eq_true rfl) ((tm_leave (sx X (i.toInt + 1)) (b := x5.toInt) (w6M)).deep (by omega)) ?_
  rintro _ w12 ⟨⟨Hw12, w12l⟩, x11, rfl, x11t⟩
  refine ⟨w12l, ?_⟩
  show aw (some X) _ 193 _ (917, [some (.ref (am_B + 1)), some (.ref 0), some (.ref 65), some (.int i)], [(.int x11)]) w12
  refine aw_step (f1 := (918, [some (.ref (am_B + 1)), some (.ref 0), some (.ref 65), some (.int i)], [])) (w1 := w12) (lt_f rfl (Nat.le_of_ble_eq_true rfl)) rfl ?_
  refine aw_step (f1 := (1476, [some (.ref (am_B + 1)), some (.ref 0), some (.ref 65), some (.int i)], [])) (w1 := w12) (lt_f rfl (Nat.le_of_ble_eq_true rfl)) rfl ?_
  exact K w12 Hw12
set_option maxRecDepth 100000 in
theorem lk_21 {X : List Int32} {Q : Option Value → am_W → Prop} {w : am_W} {i : Int32} (h0 : 0 ≤ i.toInt) (h6 : i.toInt + 6 ≤ X.length) (hX : X.length ≤ 384) (H : TI w) (K : ∀ w1, TI w1 → aw (some X) 60 193 Q (1476, [some (.ref (am_B + 1)), some (.ref 0), some (.ref 65), some (.int i)], []) w1) : aw (some X) 60 193 Q (921, [some (.ref (am_B + 1)), some (.ref 0), some (.ref 65), some (.int i)], []) w := by
  refine aw_step (f1 := (922, [some (.ref (am_B + 1)), some (.ref 0), some (.ref 65), some (.int i)], [(.ref 0)])) (w1 := w) (lt_f rfl (Nat.le_of_ble_eq_true rfl)) rfl ?_
  refine aw_step (f1 := (923, [some (.ref (am_B + 1)), some (.ref 0), some (.ref 65), some (.int i)], [(.ref (am_B + 1)), (.ref 0)])) (w1 := w) (lt_f rfl (Nat.le_of_ble_eq_true rfl)) rfl ?_
  refine aw_step (f1 := (924, [some (.ref (am_B + 1)), some (.ref 0), some (.ref 65), some (.int i)], [(.int i), (.ref (am_B + 1)), (.ref 0)])) (w1 := w) (lt_f rfl (Nat.le_of_ble_eq_true rfl)) rfl ?_
  refine x_i (pc1 := 925) (ls1 := [some (.ref (am_B + 1)), some (.ref 0), some (.ref 65), some (.int i)]) (st1 := [(.int i), (.ref (am_B + 1)), (.ref 0)]) (lt_f rfl (Nat.le_of_ble_eq_true rfl)) rfl fun x1 e2 => ?_
  have e2t : x1.toInt = 1 := by rw [e2]; rfl
  refine x_i (pc1 := 926) (ls1 := [some (.ref (am_B + 1)), some (.ref 0), some (.ref 65), some (.int i)]) (st1 := [(.ref (am_B + 1)), (.ref 0)]) (lt_f rfl (Nat.le_of_ble_eq_true rfl)) rfl fun x3 e4 => ?_
  have e4 : x3 = i + x1 := e4
  have e4t : x3.toInt = i.toInt + x1.toInt := by rw [e4]; exact n_add (by omega) (by omega)
  refine x_ia 927 (lt_f rfl (Nat.le_of_ble_eq_true rfl)) rfl (by omega) (by omega) ?_
  rw [show x3.toInt = i.toInt + 1 by omega]
  show aw (some X) _ 193 _ (927, [some (.ref (am_B + 1)), some (.ref 0), some (.ref 65), some (.int i)], [(.int (sx X (i.toInt + 1))), (.ref 0)]) w
  refine x_cv (z := 81) (p := 0) (as := [(.int (sx X (i.toInt + 1)))]) (st1 := []) (H.inv) 930 (lt_f rfl (Nat.le_of_ble_eq_true rfl)) rfl rfl rfl rfl rfl rfl rfl (Nat.le_of_ble_eq_true rfl) (Nat.le_of_ble_eq_true rfl) ((tc_meet (sx X (i.toInt + 1)) H).deep (by omega)) ?_
  rintro _ w6 ⟨⟨Hw6, w6l⟩, x5, rfl⟩
  refine ⟨w6l, ?_⟩
  show aw (some X) _ 193 _ (930, [some (.ref (am_B + 1)), some (.ref 0), some (.ref 65), some (.int i)], [(.int x5)]) w6
  refine aw_step (f1 := (931, [some (.ref (am_B + 1)), some (.ref 0), some (.ref 65), some (.int i)], [])) (w1 := w6) (lt_f rfl (Nat.le_of_ble_eq_true rfl)) rfl ?_
  refine aw_step (f1 := (932, [some (.ref (am_B + 1)), some (.ref 0), some (.ref 65), some (.int i)], [(.ref 65)])) (w1 := w6) (lt_f rfl (Nat.le_of_ble_eq_true rfl)) rfl ?_
  refine aw_step (f1 := (933, [some (.ref (am_B + 1)), some (.ref 0), some (.ref 65), some (.int i)], [(.ref (am_B + 1)), (.ref 65)])) (w1 := w6) (lt_f rfl (Nat.le_of_ble_eq_true rfl)) rfl ?_
  refine aw_step (f1 := (934, [some (.ref (am_B + 1)), some (.ref 0), some (.ref 65), some (.int i)], [(.int i), (.ref (am_B + 1)), (.ref 65)])) (w1 := w6) (lt_f rfl (Nat.le_of_ble_eq_true rfl)) rfl ?_
  refine x_i (pc1 := 935) (ls1 := [some (.ref (am_B + 1)), some (.ref 0), some (.ref 65), some (.int i)]) (st1 := [(.int i), (.ref (am_B + 1)), (.ref 65)]) (lt_f rfl (Nat.le_of_ble_eq_true rfl)) rfl fun x7 e8 => ?_
  have e8t : x7.toInt = 1 := by rw [e8]; rfl
  refine x_i (pc1 := 936) (ls1 := [some (.ref (am_B + 1)), some (.ref 0), some (.ref 65), some (.int i)]) (st1 := [(.ref (am_B + 1)), (.ref 65)]) (lt_f rfl (Nat.le_of_ble_eq_true rfl)) rfl fun x9 e10 => ?_
  have e10 : x9 = i + x7 := e10
  have e10t : x9.toInt = i.toInt + x7.toInt := by rw [e10]; exact n_add (by omega) (by omega)
  refine x_ia 937 (lt_f rfl (Nat.le_of_ble_eq_true rfl)) rfl (by omega) (by omega) ?_
  rw [show x9.toInt = i.toInt + 1 by omega]
  show aw (some X) _ 193 _ (937, [some (.ref (am_B + 1)), some (.ref 0), some (.ref 65), some (.int i)], [(.int (sx X (i.toInt + 1))), (.ref 65)]) w6
  refine x_cv (z := 159) (p := 65) (as := [(.int (sx X (i.toInt + 1)))]) (st1 := []) (Hw6.inv) 940 (lt_f rfl (Nat.le_of_ble_eq_true rfl)) rfl rfl rfl rfl rfl rfl rfl (Nat.le_of_ble_eq_true rfl) (Nat.le_of_ble_eq_true rfl) ((tm_meet (sx X (i.toInt + 1)) Hw6).deep (by omega)) ?_
  rintro _ w12 ⟨⟨Hw12, w12l⟩, x11, rfl⟩
  refine ⟨w12l, ?_⟩
  show aw (some X) _ 193 _ (940, [some (.ref (am_B + 1)), some (.ref 0), some (.ref 65), some (.int i)], [(.int x11)]) w12
  refine aw_step (f1 := (941, [some (.ref (am_B + 1)), some (.ref 0), some (.ref 65), some (.int i)], [])) (w1 := w12) (lt_f rfl (Nat.le_of_ble_eq_true rfl)) rfl ?_
  refine aw_step (f1 := (1476, [some (.ref (am_B + 1)), some (.ref 0), some (.ref 65), some (.int i)], [])) (w1 := w12) (lt_f rfl (Nat.le_of_ble_eq_true rfl)) rfl ?_
  exact K w12 Hw12
set_option maxRecDepth 100000 in
theorem lk_22 {X : List Int32} {Q : Option Value → am_W → Prop} {w : am_W} {i : Int32} (h0 : 0 ≤ i.toInt) (h6 : i.toInt + 6 ≤ X.length) (hX : X.length ≤ 384) (H : TI w) (K : ∀ w1, TI w1 → aw (some X) 60 193 Q (1476, [some (.ref (am_B + 1)), some (.ref 0), some (.ref 65), some (.int i)], []) w1) : aw (some X) 60 193 Q (944, [some (.ref (am_B + 1)), some (.ref 0), some (.ref 65), some (.int i)], []) w := by
  refine aw_step (f1 := (945, [some (.ref (am_B + 1)), some (.ref 0), some (.ref 65), some (.int i)], [(.ref 0)])) (w1 := w) (lt_f rfl (Nat.le_of_ble_eq_true rfl)) rfl ?_
  refine aw_step (f1 := (946, [some (.ref (am_B + 1)), some (.ref 0), some (.ref 65), some (.int i)], [(.ref (am_B + 1)), (.ref 0)])) (w1 := w) (lt_f rfl (Nat.le_of_ble_eq_true rfl)) rfl ?_
  refine aw_step (f1 := (947, [some (.ref (am_B + 1)), some (.ref 0), some (.ref 65), some (.int i)], [(.int i), (.ref (am_B + 1)), (.ref 0)])) (w1 := w) (lt_f rfl (Nat.le_of_ble_eq_true rfl)) rfl ?_
  refine x_i (pc1 := 948) (ls1 := [some (.ref (am_B + 1)), some (.ref 0), some (.ref 65), some (.int i)]) (st1 := [(.int i), (.ref (am_B + 1)), (.ref 0)]) (lt_f rfl (Nat.le_of_ble_eq_true rfl)) rfl fun x1 e2 => ?_
  have e2t : x1.toInt = 1 := by rw [e2]; rfl
  refine x_i (pc1 := 949) (ls1 := [some (.ref (am_B + 1)), some (.ref 0), some (.ref 65), some (.int i)]) (st1 := [(.ref (am_B + 1)), (.ref 0)]) (lt_f rfl (Nat.le_of_ble_eq_true rfl)) rfl fun x3 e4 => ?_
  have e4 : x3 = i + x1 := e4
  have e4t : x3.toInt = i.toInt + x1.toInt := by rw [e4]; exact n_add (by omega) (by omega)
  refine x_ia 950 (lt_f rfl (Nat.le_of_ble_eq_true rfl)) rfl (by omega) (by omega) ?_
  rw [show x3.toInt = i.toInt + 1 by omega]
  show aw (some X) _ 193 _ (950, [some (.ref (am_B + 1)), some (.ref 0), some (.ref 65), some (.int i)], [(.int (sx X (i.toInt + 1))), (.ref 0)]) w
  refine x_l (pc1 := 951) (ls1 := [some (.ref (am_B + 1)), some (.ref 0), some (.ref 65), some (.int i)]) (st1 := [(.ref 0)]) (lt_f rfl (Nat.le_of_ble_eq_true rfl)) rfl fun y5 e6 => ?_
  have e6t : y5.toInt = (sx X (i.toInt + 1)).toInt := by rw [e6]; exact Int32.toInt_toInt64 (sx X (i.toInt + 1))
  refine x_i (pc1 := 953) (ls1 := [some (.ref (am_B + 1)), some (.ref 0), some (.ref 65), some (.int i)]) (st1 := [(.long y5), (.ref 0)]) (lt_f rfl (Nat.le_of_ble_eq_true rfl)) rfl fun x7 e8 => ?_
  have e8t : x7.toInt = 32 := by rw [e8]; rfl
  refine x_l (pc1 := 954) (ls1 := [some (.ref (am_B + 1)), some (.ref 0), some (.ref 65), some (.int i)]) (st1 := [(.ref 0)]) (lt_f rfl (Nat.le_of_ble_eq_true rfl)) rfl fun y9 e10 => ?_
  have e10 : y9 = y5 <<< (x7.toInt64 &&& 63) := e10
  refine aw_step (f1 := (955, [some (.ref (am_B + 1)), some (.ref 0), some (.ref 65), some (.int i)], [(.ref (am_B + 1)), (.long y9), (.ref 0)])) (w1 := w) (lt_f rfl (Nat.le_of_ble_eq_true rfl)) rfl ?_
  refine aw_step (f1 := (956, [some (.ref (am_B + 1)), some (.ref 0), some (.ref 65), some (.int i)], [(.int i), (.ref (am_B + 1)), (.long y9), (.ref 0)])) (w1 := w) (lt_f rfl (Nat.le_of_ble_eq_true rfl)) rfl ?_
  refine x_i (pc1 := 957) (ls1 := [some (.ref (am_B + 1)), some (.ref 0), some (.ref 65), some (.int i)]) (st1 := [(.int i), (.ref (am_B + 1)), (.long y9), (.ref 0)]) (lt_f rfl (Nat.le_of_ble_eq_true rfl)) rfl fun x11 e12 => ?_
  have e12t : x11.toInt = 2 := by rw [e12]; rfl
  refine x_i (pc1 := 958) (ls1 := [some (.ref (am_B + 1)), some (.ref 0), some (.ref 65), some (.int i)]) (st1 := [(.ref (am_B + 1)), (.long y9), (.ref 0)]) (lt_f rfl (Nat.le_of_ble_eq_true rfl)) rfl fun x13 e14 => ?_
  have e14 : x13 = i + x11 := e14
  have e14t : x13.toInt = i.toInt + x11.toInt := by rw [e14]; exact n_add (by omega) (by omega)
  refine x_ia 959 (lt_f rfl (Nat.le_of_ble_eq_true rfl)) rfl (by omega) (by omega) ?_
  rw [show x13.toInt = i.toInt + 2 by omega]
  show aw (some X) _ 193 _ (959, [some (.ref (am_B + 1)), some (.ref 0), some (.ref 65), some (.int i)], [(.int (sx X (i.toInt + 2))), (.long y9), (.ref 0)]) w
  refine x_l (pc1 := 960) (ls1 := [some (.ref (am_B + 1)), some (.ref 0), some (.ref 65), some (.int i)]) (st1 := [(.long y9), (.ref 0)]) (lt_f rfl (Nat.le_of_ble_eq_true rfl)) rfl fun y15 e16 => ?_
  have e16t : y15.toInt = (sx X (i.toInt + 2)).toInt := by rw [e16]; exact Int32.toInt_toInt64 (sx X (i.toInt + 2))
  refine x_l (pc1 := 963) (ls1 := [some (.ref (am_B + 1)), some (.ref 0), some (.ref 65), some (.int i)]) (st1 := [(.long y15), (.long y9), (.ref 0)]) (lt_f rfl (Nat.le_of_ble_eq_true rfl)) rfl fun y17 e18 => ?_
  have e18t : y17.toInt = 4294967295 := by rw [e18]; rfl
  refine x_l (pc1 := 964) (ls1 := [some (.ref (am_B + 1)), some (.ref 0), some (.ref 65), some (.int i)]) (st1 := [(.long y9), (.ref 0)]) (lt_f rfl (Nat.le_of_ble_eq_true rfl)) rfl fun y19 e20 => ?_
  have e20 : y19 = y15 &&& y17 := e20
  refine x_l (pc1 := 965) (ls1 := [some (.ref (am_B + 1)), some (.ref 0), some (.ref 65), some (.int i)]) (st1 := [(.ref 0)]) (lt_f rfl (Nat.le_of_ble_eq_true rfl)) rfl fun y21 e22 => ?_
  have e22 : y21 = y9 ||| y19 := e22
  refine aw_step (f1 := (966, [some (.ref (am_B + 1)), some (.ref 0), some (.ref 65), some (.int i)], [(.ref (am_B + 1)), (.long y21), (.ref 0)])) (w1 := w) (lt_f rfl (Nat.le_of_ble_eq_true rfl)) rfl ?_
  refine aw_step (f1 := (967, [some (.ref (am_B + 1)), some (.ref 0), some (.ref 65), some (.int i)], [(.int i), (.ref (am_B + 1)), (.long y21), (.ref 0)])) (w1 := w) (lt_f rfl (Nat.le_of_ble_eq_true rfl)) rfl ?_
  refine x_i (pc1 := 968) (ls1 := [some (.ref (am_B + 1)), some (.ref 0), some (.ref 65), some (.int i)]) (st1 := [(.int i), (.ref (am_B + 1)), (.long y21), (.ref 0)]) (lt_f rfl (Nat.le_of_ble_eq_true rfl)) rfl fun x23 e24 => ?_
  have e24t : x23.toInt = 3 := by rw [e24]; rfl
  refine x_i (pc1 := 969) (ls1 := [some (.ref (am_B + 1)), some (.ref 0), some (.ref 65), some (.int i)]) (st1 := [(.ref (am_B + 1)), (.long y21), (.ref 0)]) (lt_f rfl (Nat.le_of_ble_eq_true rfl)) rfl fun x25 e26 => ?_
  have e26 : x25 = i + x23 := e26
  have e26t : x25.toInt = i.toInt + x23.toInt := by rw [e26]; exact n_add (by omega) (by omega)
  refine x_ia 970 (lt_f rfl (Nat.le_of_ble_eq_true rfl)) rfl (by omega) (by omega) ?_
  rw [show x25.toInt = i.toInt + 3 by omega]
  show aw (some X) _ 193 _ (970, [some (.ref (am_B + 1)), some (.ref 0), some (.ref 65), some (.int i)], [(.int (sx X (i.toInt + 3))), (.long y21), (.ref 0)]) w
  refine aw_step (f1 := (971, [some (.ref (am_B + 1)), some (.ref 0), some (.ref 65), some (.int i)], [(.ref (am_B + 1)), (.int (sx X (i.toInt + 3))), (.long y21), (.ref 0)])) (w1 := w) (lt_f rfl (Nat.le_of_ble_eq_true rfl)) rfl ?_
  refine aw_step (f1 := (972, [some (.ref (am_B + 1)), some (.ref 0), some (.ref 65), some (.int i)], [(.int i), (.ref (am_B + 1)), (.int (sx X (i.toInt + 3))), (.long y21), (.ref 0)])) (w1 := w) (lt_f rfl (Nat.le_of_ble_eq_true rfl)) rfl ?_
  refine x_i (pc1 := 973) (ls1 := [some (.ref (am_B + 1)), some (.ref 0), some (.ref 65), some (.int i)]) (st1 := [(.int i), (.ref (am_B + 1)), (.int (sx X (i.toInt + 3))), (.long y21), (.ref 0)]) (lt_f rfl (Nat.le_of_ble_eq_true rfl)) rfl fun x27 e28 => ?_
  have e28t : x27.toInt = 4 := by rw [e28]; rfl
  refine x_i (pc1 := 974) (ls1 := [some (.ref (am_B + 1)), some (.ref 0), some (.ref 65), some (.int i)]) (st1 := [(.ref (am_B + 1)), (.int (sx X (i.toInt + 3))), (.long y21), (.ref 0)]) (lt_f rfl (Nat.le_of_ble_eq_true rfl)) rfl fun x29 e30 => ?_
  have e30 : x29 = i + x27 := e30
  have e30t : x29.toInt = i.toInt + x27.toInt := by rw [e30]; exact n_add (by omega) (by omega)
  refine x_ia 975 (lt_f rfl (Nat.le_of_ble_eq_true rfl)) rfl (by omega) (by omega) ?_
  rw [show x29.toInt = i.toInt + 4 by omega]
  show aw (some X) _ 193 _ (975, [some (.ref (am_B + 1)), some (.ref 0), some (.ref 65), some (.int i)], [(.int (sx X (i.toInt + 4))), (.int (sx X (i.toInt + 3))), (.long y21), (.ref 0)]) w
  refine x_cv (z := 82) (p := 0) (as := [(.long y21), (.int (sx X (i.toInt + 3))), (.int (sx X (i.toInt + 4)))]) (st1 := []) (H.inv) 978 (lt_f rfl (Nat.le_of_ble_eq_true rfl)) rfl rfl rfl rfl rfl rfl rfl (Nat.le_of_ble_eq_true rfl) (Nat.le_of_ble_eq_true rfl) ((tc_made y21 (sx X (i.toInt + 3)) (sx X (i.toInt + 4)) H).deep (by omega)) ?_
  rintro _ w32 ⟨⟨Hw32, w32l⟩, x31, rfl⟩
  refine ⟨w32l, ?_⟩
  show aw (some X) _ 193 _ (978, [some (.ref (am_B + 1)), some (.ref 0), some (.ref 65), some (.int i)], [(.int x31)]) w32
  refine aw_step (f1 := (979, [some (.ref (am_B + 1)), some (.ref 0), some (.ref 65), some (.int i)], [])) (w1 := w32) (lt_f rfl (Nat.le_of_ble_eq_true rfl)) rfl ?_
  refine aw_step (f1 := (980, [some (.ref (am_B + 1)), some (.ref 0), some (.ref 65), some (.int i)], [(.ref 65)])) (w1 := w32) (lt_f rfl (Nat.le_of_ble_eq_true rfl)) rfl ?_
  refine aw_step (f1 := (981, [some (.ref (am_B + 1)), some (.ref 0), some (.ref 65), some (.int i)], [(.ref (am_B + 1)), (.ref 65)])) (w1 := w32) (lt_f rfl (Nat.le_of_ble_eq_true rfl)) rfl ?_
  refine aw_step (f1 := (982, [some (.ref (am_B + 1)), some (.ref 0), some (.ref 65), some (.int i)], [(.int i), (.ref (am_B + 1)), (.ref 65)])) (w1 := w32) (lt_f rfl (Nat.le_of_ble_eq_true rfl)) rfl ?_
  refine x_i (pc1 := 983) (ls1 := [some (.ref (am_B + 1)), some (.ref 0), some (.ref 65), some (.int i)]) (st1 := [(.int i), (.ref (am_B + 1)), (.ref 65)]) (lt_f rfl (Nat.le_of_ble_eq_true rfl)) rfl fun x33 e34 => ?_
  have e34t : x33.toInt = 1 := by rw [e34]; rfl
  refine x_i (pc1 := 984) (ls1 := [some (.ref (am_B + 1)), some (.ref 0), some (.ref 65), some (.int i)]) (st1 := [(.ref (am_B + 1)), (.ref 65)]) (lt_f rfl (Nat.le_of_ble_eq_true rfl)) rfl fun x35 e36 => ?_
  have e36 : x35 = i + x33 := e36
  have e36t : x35.toInt = i.toInt + x33.toInt := by rw [e36]; exact n_add (by omega) (by omega)
  refine x_ia 985 (lt_f rfl (Nat.le_of_ble_eq_true rfl)) rfl (by omega) (by omega) ?_
  rw [show x35.toInt = i.toInt + 1 by omega]
  show aw (some X) _ 193 _ (985, [some (.ref (am_B + 1)), some (.ref 0), some (.ref 65), some (.int i)], [(.int (sx X (i.toInt + 1))), (.ref 65)]) w32
  refine x_l (pc1 := 986) (ls1 := [some (.ref (am_B + 1)), some (.ref 0), some (.ref 65), some (.int i)]) (st1 := [(.ref 65)]) (lt_f rfl (Nat.le_of_ble_eq_true rfl)) rfl fun y37 e38 => ?_
  have e38t : y37.toInt = (sx X (i.toInt + 1)).toInt := by rw [e38]; exact Int32.toInt_toInt64 (sx X (i.toInt + 1))
  refine x_i (pc1 := 988) (ls1 := [some (.ref (am_B + 1)), some (.ref 0), some (.ref 65), some (.int i)]) (st1 := [(.long y37), (.ref 65)]) (lt_f rfl (Nat.le_of_ble_eq_true rfl)) rfl fun x39 e40 => ?_
  have e40t : x39.toInt = 32 := by rw [e40]; rfl
  refine x_l (pc1 := 989) (ls1 := [some (.ref (am_B + 1)), some (.ref 0), some (.ref 65), some (.int i)]) (st1 := [(.ref 65)]) (lt_f rfl (Nat.le_of_ble_eq_true rfl)) rfl fun y41 e42 => ?_
  have e42 : y41 = y37 <<< (x39.toInt64 &&& 63) := e42
  refine aw_step (f1 := (990, [some (.ref (am_B + 1)), some (.ref 0), some (.ref 65), some (.int i)], [(.ref (am_B + 1)), (.long y41), (.ref 65)])) (w1 := w32) (lt_f rfl (Nat.le_of_ble_eq_true rfl)) rfl ?_
  refine aw_step (f1 := (991, [some (.ref (am_B + 1)), some (.ref 0), some (.ref 65), some (.int i)], [(.int i), (.ref (am_B + 1)), (.long y41), (.ref 65)])) (w1 := w32) (lt_f rfl (Nat.le_of_ble_eq_true rfl)) rfl ?_
  refine x_i (pc1 := 992) (ls1 := [some (.ref (am_B + 1)), some (.ref 0), some (.ref 65), some (.int i)]) (st1 := [(.int i), (.ref (am_B + 1)), (.long y41), (.ref 65)]) (lt_f rfl (Nat.le_of_ble_eq_true rfl)) rfl fun x43 e44 => ?_
  have e44t : x43.toInt = 2 := by rw [e44]; rfl
  refine x_i (pc1 := 993) (ls1 := [some (.ref (am_B + 1)), some (.ref 0), some (.ref 65), some (.int i)]) (st1 := [(.ref (am_B + 1)), (.long y41), (.ref 65)]) (lt_f rfl (Nat.le_of_ble_eq_true rfl)) rfl fun x45 e46 => ?_
  have e46 : x45 = i + x43 := e46
  have e46t : x45.toInt = i.toInt + x43.toInt := by rw [e46]; exact n_add (by omega) (by omega)
  refine x_ia 994 (lt_f rfl (Nat.le_of_ble_eq_true rfl)) rfl (by omega) (by omega) ?_
  rw [show x45.toInt = i.toInt + 2 by omega]
  show aw (some X) _ 193 _ (994, [some (.ref (am_B + 1)), some (.ref 0), some (.ref 65), some (.int i)], [(.int (sx X (i.toInt + 2))), (.long y41), (.ref 65)]) w32
  refine x_l (pc1 := 995) (ls1 := [some (.ref (am_B + 1)), some (.ref 0), some (.ref 65), some (.int i)]) (st1 := [(.long y41), (.ref 65)]) (lt_f rfl (Nat.le_of_ble_eq_true rfl)) rfl fun y47 e48 => ?_
  have e48t : y47.toInt = (sx X (i.toInt + 2)).toInt := by rw [e48]; exact Int32.toInt_toInt64 (sx X (i.toInt + 2))
  refine x_l (pc1 := 998) (ls1 := [some (.ref (am_B + 1)), some (.ref 0), some (.ref 65), some (.int i)]) (st1 := [(.long y47), (.long y41), (.ref 65)]) (lt_f rfl (Nat.le_of_ble_eq_true rfl)) rfl fun y49 e50 => ?_
  have e50t : y49.toInt = 4294967295 := by rw [e50]; rfl
  refine x_l (pc1 := 999) (ls1 := [some (.ref (am_B + 1)), some (.ref 0), some (.ref 65), some (.int i)]) (st1 := [(.long y41), (.ref 65)]) (lt_f rfl (Nat.le_of_ble_eq_true rfl)) rfl fun y51 e52 => ?_
  have e52 : y51 = y47 &&& y49 := e52
  refine x_l (pc1 := 1000) (ls1 := [some (.ref (am_B + 1)), some (.ref 0), some (.ref 65), some (.int i)]) (st1 := [(.ref 65)]) (lt_f rfl (Nat.le_of_ble_eq_true rfl)) rfl fun y53 e54 => ?_
  have e54 : y53 = y41 ||| y51 := e54
  refine aw_step (f1 := (1001, [some (.ref (am_B + 1)), some (.ref 0), some (.ref 65), some (.int i)], [(.ref (am_B + 1)), (.long y53), (.ref 65)])) (w1 := w32) (lt_f rfl (Nat.le_of_ble_eq_true rfl)) rfl ?_
  refine aw_step (f1 := (1002, [some (.ref (am_B + 1)), some (.ref 0), some (.ref 65), some (.int i)], [(.int i), (.ref (am_B + 1)), (.long y53), (.ref 65)])) (w1 := w32) (lt_f rfl (Nat.le_of_ble_eq_true rfl)) rfl ?_
  refine x_i (pc1 := 1003) (ls1 := [some (.ref (am_B + 1)), some (.ref 0), some (.ref 65), some (.int i)]) (st1 := [(.int i), (.ref (am_B + 1)), (.long y53), (.ref 65)]) (lt_f rfl (Nat.le_of_ble_eq_true rfl)) rfl fun x55 e56 => ?_
  have e56t : x55.toInt = 3 := by rw [e56]; rfl
  refine x_i (pc1 := 1004) (ls1 := [some (.ref (am_B + 1)), some (.ref 0), some (.ref 65), some (.int i)]) (st1 := [(.ref (am_B + 1)), (.long y53), (.ref 65)]) (lt_f rfl (Nat.le_of_ble_eq_true rfl)) rfl fun x57 e58 => ?_
  have e58 : x57 = i + x55 := e58
  have e58t : x57.toInt = i.toInt + x55.toInt := by rw [e58]; exact n_add (by omega) (by omega)
  refine x_ia 1005 (lt_f rfl (Nat.le_of_ble_eq_true rfl)) rfl (by omega) (by omega) ?_
  rw [show x57.toInt = i.toInt + 3 by omega]
  show aw (some X) _ 193 _ (1005, [some (.ref (am_B + 1)), some (.ref 0), some (.ref 65), some (.int i)], [(.int (sx X (i.toInt + 3))), (.long y53), (.ref 65)]) w32
  refine aw_step (f1 := (1006, [some (.ref (am_B + 1)), some (.ref 0), some (.ref 65), some (.int i)], [(.ref (am_B + 1)), (.int (sx X (i.toInt + 3))), (.long y53), (.ref 65)])) (w1 := w32) (lt_f rfl (Nat.le_of_ble_eq_true rfl)) rfl ?_
  refine aw_step (f1 := (1007, [some (.ref (am_B + 1)), some (.ref 0), some (.ref 65), some (.int i)], [(.int i), (.ref (am_B + 1)), (.int (sx X (i.toInt + 3))), (.long y53), (.ref 65)])) (w1 := w32) (lt_f rfl (Nat.le_of_ble_eq_true rfl)) rfl ?_
  refine x_i (pc1 := 1008) (ls1 := [some (.ref (am_B + 1)), some (.ref 0), some (.ref 65), some (.int i)]) (st1 := [(.int i), (.ref (am_B + 1)), (.int (sx X (i.toInt + 3))), (.long y53), (.ref 65)]) (lt_f rfl (Nat.le_of_ble_eq_true rfl)) rfl fun x59 e60 => ?_
  have e60t : x59.toInt = 4 := by rw [e60]; rfl
  refine x_i (pc1 := 1009) (ls1 := [some (.ref (am_B + 1)), some (.ref 0), some (.ref 65), some (.int i)]) (st1 := [(.ref (am_B + 1)), (.int (sx X (i.toInt + 3))), (.long y53), (.ref 65)]) (lt_f rfl (Nat.le_of_ble_eq_true rfl)) rfl fun x61 e62 => ?_
  have e62 : x61 = i + x59 := e62
  have e62t : x61.toInt = i.toInt + x59.toInt := by rw [e62]; exact n_add (by omega) (by omega)
  refine x_ia 1010 (lt_f rfl (Nat.le_of_ble_eq_true rfl)) rfl (by omega) (by omega) ?_
  rw [show x61.toInt = i.toInt + 4 by omega]
  show aw (some X) _ 193 _ (1010, [some (.ref (am_B + 1)), some (.ref 0), some (.ref 65), some (.int i)], [(.int (sx X (i.toInt + 4))), (.int (sx X (i.toInt + 3))), (.long y53), (.ref 65)]) w32
  refine x_cv (z := 160) (p := 65) (as := [(.long y53), (.int (sx X (i.toInt + 3))), (.int (sx X (i.toInt + 4)))]) (st1 := []) (Hw32.inv) 1013 (lt_f rfl (Nat.le_of_ble_eq_true rfl)) rfl rfl rfl rfl rfl rfl rfl (Nat.le_of_ble_eq_true rfl) (Nat.le_of_ble_eq_true rfl) ((tm_made y53 (sx X (i.toInt + 3)) (sx X (i.toInt + 4)) Hw32).deep (by omega)) ?_
  rintro _ w64 ⟨⟨Hw64, w64l⟩, x63, rfl⟩
  refine ⟨w64l, ?_⟩
  show aw (some X) _ 193 _ (1013, [some (.ref (am_B + 1)), some (.ref 0), some (.ref 65), some (.int i)], [(.int x63)]) w64
  refine aw_step (f1 := (1014, [some (.ref (am_B + 1)), some (.ref 0), some (.ref 65), some (.int i)], [])) (w1 := w64) (lt_f rfl (Nat.le_of_ble_eq_true rfl)) rfl ?_
  refine aw_step (f1 := (1476, [some (.ref (am_B + 1)), some (.ref 0), some (.ref 65), some (.int i)], [])) (w1 := w64) (lt_f rfl (Nat.le_of_ble_eq_true rfl)) rfl ?_
  exact K w64 Hw64
set_option maxRecDepth 100000 in
theorem lk_23 {X : List Int32} {Q : Option Value → am_W → Prop} {w : am_W} {i : Int32} (h0 : 0 ≤ i.toInt) (h6 : i.toInt + 6 ≤ X.length) (hX : X.length ≤ 384) (H : TI w) (K : ∀ w1, TI w1 → aw (some X) 60 193 Q (1476, [some (.ref (am_B + 1)), some (.ref 0), some (.ref 65), some (.int i)], []) w1) : aw (some X) 60 193 Q (1017, [some (.ref (am_B + 1)), some (.ref 0), some (.ref 65), some (.int i)], []) w := by
  refine aw_step (f1 := (1018, [some (.ref (am_B + 1)), some (.ref 0), some (.ref 65), some (.int i)], [(.ref 0)])) (w1 := w) (lt_f rfl (Nat.le_of_ble_eq_true rfl)) rfl ?_
  refine aw_step (f1 := (1019, [some (.ref (am_B + 1)), some (.ref 0), some (.ref 65), some (.int i)], [(.ref (am_B + 1)), (.ref 0)])) (w1 := w) (lt_f rfl (Nat.le_of_ble_eq_true rfl)) rfl ?_
  refine aw_step (f1 := (1020, [some (.ref (am_B + 1)), some (.ref 0), some (.ref 65), some (.int i)], [(.int i), (.ref (am_B + 1)), (.ref 0)])) (w1 := w) (lt_f rfl (Nat.le_of_ble_eq_true rfl)) rfl ?_
  refine x_i (pc1 := 1021) (ls1 := [some (.ref (am_B + 1)), some (.ref 0), some (.ref 65), some (.int i)]) (st1 := [(.int i), (.ref (am_B + 1)), (.ref 0)]) (lt_f rfl (Nat.le_of_ble_eq_true rfl)) rfl fun x1 e2 => ?_
  have e2t : x1.toInt = 1 := by rw [e2]; rfl
  refine x_i (pc1 := 1022) (ls1 := [some (.ref (am_B + 1)), some (.ref 0), some (.ref 65), some (.int i)]) (st1 := [(.ref (am_B + 1)), (.ref 0)]) (lt_f rfl (Nat.le_of_ble_eq_true rfl)) rfl fun x3 e4 => ?_
  have e4 : x3 = i + x1 := e4
  have e4t : x3.toInt = i.toInt + x1.toInt := by rw [e4]; exact n_add (by omega) (by omega)
  refine x_ia 1023 (lt_f rfl (Nat.le_of_ble_eq_true rfl)) rfl (by omega) (by omega) ?_
  rw [show x3.toInt = i.toInt + 1 by omega]
  show aw (some X) _ 193 _ (1023, [some (.ref (am_B + 1)), some (.ref 0), some (.ref 65), some (.int i)], [(.int (sx X (i.toInt + 1))), (.ref 0)]) w
  refine aw_step (f1 := (1024, [some (.ref (am_B + 1)), some (.ref 0), some (.ref 65), some (.int i)], [(.ref (am_B + 1)), (.int (sx X (i.toInt + 1))), (.ref 0)])) (w1 := w) (lt_f rfl (Nat.le_of_ble_eq_true rfl)) rfl ?_
  refine aw_step (f1 := (1025, [some (.ref (am_B + 1)), some (.ref 0), some (.ref 65), some (.int i)], [(.int i), (.ref (am_B + 1)), (.int (sx X (i.toInt + 1))), (.ref 0)])) (w1 := w) (lt_f rfl (Nat.le_of_ble_eq_true rfl)) rfl ?_
  refine x_i (pc1 := 1026) (ls1 := [some (.ref (am_B + 1)), some (.ref 0), some (.ref 65), some (.int i)]) (st1 := [(.int i), (.ref (am_B + 1)), (.int (sx X (i.toInt + 1))), (.ref 0)]) (lt_f rfl (Nat.le_of_ble_eq_true rfl)) rfl fun x5 e6 => ?_
  have e6t : x5.toInt = 2 := by rw [e6]; rfl
  refine x_i (pc1 := 1027) (ls1 := [some (.ref (am_B + 1)), some (.ref 0), some (.ref 65), some (.int i)]) (st1 := [(.ref (am_B + 1)), (.int (sx X (i.toInt + 1))), (.ref 0)]) (lt_f rfl (Nat.le_of_ble_eq_true rfl)) rfl fun x7 e8 => ?_
  have e8 : x7 = i + x5 := e8
  have e8t : x7.toInt = i.toInt + x5.toInt := by rw [e8]; exact n_add (by omega) (by omega)
  refine x_ia 1028 (lt_f rfl (Nat.le_of_ble_eq_true rfl)) rfl (by omega) (by omega) ?_
  rw [show x7.toInt = i.toInt + 2 by omega]
  show aw (some X) _ 193 _ (1028, [some (.ref (am_B + 1)), some (.ref 0), some (.ref 65), some (.int i)], [(.int (sx X (i.toInt + 2))), (.int (sx X (i.toInt + 1))), (.ref 0)]) w
  refine x_cv (z := 83) (p := 0) (as := [(.int (sx X (i.toInt + 1))), (.int (sx X (i.toInt + 2)))]) (st1 := []) (H.inv) 1031 (lt_f rfl (Nat.le_of_ble_eq_true rfl)) rfl rfl rfl rfl rfl rfl rfl (Nat.le_of_ble_eq_true rfl) (Nat.le_of_ble_eq_true rfl) ((tc_seen (sx X (i.toInt + 1)) (sx X (i.toInt + 2)) H).deep (by omega)) ?_
  rintro _ w10 ⟨⟨Hw10, w10l⟩, x9, rfl, w10M⟩
  refine ⟨w10l, ?_⟩
  show aw (some X) _ 193 _ (1031, [some (.ref (am_B + 1)), some (.ref 0), some (.ref 65), some (.int i)], [(.int x9)]) w10
  refine aw_step (f1 := (1032, [some (.ref (am_B + 1)), some (.ref 0), some (.ref 65), some (.int i)], [])) (w1 := w10) (lt_f rfl (Nat.le_of_ble_eq_true rfl)) rfl ?_
  refine aw_step (f1 := (1033, [some (.ref (am_B + 1)), some (.ref 0), some (.ref 65), some (.int i)], [(.ref 65)])) (w1 := w10) (lt_f rfl (Nat.le_of_ble_eq_true rfl)) rfl ?_
  refine aw_step (f1 := (1034, [some (.ref (am_B + 1)), some (.ref 0), some (.ref 65), some (.int i)], [(.ref (am_B + 1)), (.ref 65)])) (w1 := w10) (lt_f rfl (Nat.le_of_ble_eq_true rfl)) rfl ?_
  refine aw_step (f1 := (1035, [some (.ref (am_B + 1)), some (.ref 0), some (.ref 65), some (.int i)], [(.int i), (.ref (am_B + 1)), (.ref 65)])) (w1 := w10) (lt_f rfl (Nat.le_of_ble_eq_true rfl)) rfl ?_
  refine x_i (pc1 := 1036) (ls1 := [some (.ref (am_B + 1)), some (.ref 0), some (.ref 65), some (.int i)]) (st1 := [(.int i), (.ref (am_B + 1)), (.ref 65)]) (lt_f rfl (Nat.le_of_ble_eq_true rfl)) rfl fun x11 e12 => ?_
  have e12t : x11.toInt = 1 := by rw [e12]; rfl
  refine x_i (pc1 := 1037) (ls1 := [some (.ref (am_B + 1)), some (.ref 0), some (.ref 65), some (.int i)]) (st1 := [(.ref (am_B + 1)), (.ref 65)]) (lt_f rfl (Nat.le_of_ble_eq_true rfl)) rfl fun x13 e14 => ?_
  have e14 : x13 = i + x11 := e14
  have e14t : x13.toInt = i.toInt + x11.toInt := by rw [e14]; exact n_add (by omega) (by omega)
  refine x_ia 1038 (lt_f rfl (Nat.le_of_ble_eq_true rfl)) rfl (by omega) (by omega) ?_
  rw [show x13.toInt = i.toInt + 1 by omega]
  show aw (some X) _ 193 _ (1038, [some (.ref (am_B + 1)), some (.ref 0), some (.ref 65), some (.int i)], [(.int (sx X (i.toInt + 1))), (.ref 65)]) w10
  refine aw_step (f1 := (1039, [some (.ref (am_B + 1)), some (.ref 0), some (.ref 65), some (.int i)], [(.ref (am_B + 1)), (.int (sx X (i.toInt + 1))), (.ref 65)])) (w1 := w10) (lt_f rfl (Nat.le_of_ble_eq_true rfl)) rfl ?_
  refine aw_step (f1 := (1040, [some (.ref (am_B + 1)), some (.ref 0), some (.ref 65), some (.int i)], [(.int i), (.ref (am_B + 1)), (.int (sx X (i.toInt + 1))), (.ref 65)])) (w1 := w10) (lt_f rfl (Nat.le_of_ble_eq_true rfl)) rfl ?_
  refine x_i (pc1 := 1041) (ls1 := [some (.ref (am_B + 1)), some (.ref 0), some (.ref 65), some (.int i)]) (st1 := [(.int i), (.ref (am_B + 1)), (.int (sx X (i.toInt + 1))), (.ref 65)]) (lt_f rfl (Nat.le_of_ble_eq_true rfl)) rfl fun x15 e16 => ?_
  have e16t : x15.toInt = 2 := by rw [e16]; rfl
  refine x_i (pc1 := 1042) (ls1 := [some (.ref (am_B + 1)), some (.ref 0), some (.ref 65), some (.int i)]) (st1 := [(.ref (am_B + 1)), (.int (sx X (i.toInt + 1))), (.ref 65)]) (lt_f rfl (Nat.le_of_ble_eq_true rfl)) rfl fun x17 e18 => ?_
  have e18 : x17 = i + x15 := e18
  have e18t : x17.toInt = i.toInt + x15.toInt := by rw [e18]; exact n_add (by omega) (by omega)
  refine x_ia 1043 (lt_f rfl (Nat.le_of_ble_eq_true rfl)) rfl (by omega) (by omega) ?_
  rw [show x17.toInt = i.toInt + 2 by omega]
  show aw (some X) _ 193 _ (1043, [some (.ref (am_B + 1)), some (.ref 0), some (.ref 65), some (.int i)], [(.int (sx X (i.toInt + 2))), (.int (sx X (i.toInt + 1))), (.ref 65)]) w10
  refine x_cv (z := 161) (p := 65) (as := [(.int (sx X (i.toInt + 1))), (.int (sx X (i.toInt + 2)))]) (st1 := []) (Hw10) 1046 (lt_f rfl (Nat.le_of_ble_eq_true rfl)) rfl rfl rfl rfl rfl rfl rfl (Nat.le_of_ble_eq_true rfl) (Nat.le_of_ble_eq_true rfl) ((tm_seen (sx X (i.toInt + 1)) (sx X (i.toInt + 2)) (b := x9.toInt) (w10M)).deep (by omega)) ?_
  rintro _ w20 ⟨⟨Hw20, w20l⟩, x19, rfl, x19t⟩
  refine ⟨w20l, ?_⟩
  show aw (some X) _ 193 _ (1046, [some (.ref (am_B + 1)), some (.ref 0), some (.ref 65), some (.int i)], [(.int x19)]) w20
  refine aw_step (f1 := (1047, [some (.ref (am_B + 1)), some (.ref 0), some (.ref 65), some (.int i)], [])) (w1 := w20) (lt_f rfl (Nat.le_of_ble_eq_true rfl)) rfl ?_
  refine aw_step (f1 := (1476, [some (.ref (am_B + 1)), some (.ref 0), some (.ref 65), some (.int i)], [])) (w1 := w20) (lt_f rfl (Nat.le_of_ble_eq_true rfl)) rfl ?_
  exact K w20 Hw20
set_option maxRecDepth 100000 in
theorem lk_24 {X : List Int32} {Q : Option Value → am_W → Prop} {w : am_W} {i : Int32} (h0 : 0 ≤ i.toInt) (h6 : i.toInt + 6 ≤ X.length) (hX : X.length ≤ 384) (H : TI w) (K : ∀ w1, TI w1 → aw (some X) 60 193 Q (1476, [some (.ref (am_B + 1)), some (.ref 0), some (.ref 65), some (.int i)], []) w1) : aw (some X) 60 193 Q (1050, [some (.ref (am_B + 1)), some (.ref 0), some (.ref 65), some (.int i)], []) w := by
  refine aw_step (f1 := (1051, [some (.ref (am_B + 1)), some (.ref 0), some (.ref 65), some (.int i)], [(.ref 0)])) (w1 := w) (lt_f rfl (Nat.le_of_ble_eq_true rfl)) rfl ?_
  refine x_cv (z := 84) (p := 0) (as := []) (st1 := []) (H.inv) 1054 (lt_f rfl (Nat.le_of_ble_eq_true rfl)) rfl rfl rfl rfl rfl rfl rfl (Nat.le_of_ble_eq_true rfl) (Nat.le_of_ble_eq_true rfl) ((tc_forget  H).deep (by omega)) ?_
  rintro _ w2 ⟨⟨Hw2, w2l⟩, x1, rfl, w2M⟩
  refine ⟨w2l, ?_⟩
  show aw (some X) _ 193 _ (1054, [some (.ref (am_B + 1)), some (.ref 0), some (.ref 65), some (.int i)], [(.int x1)]) w2
  refine aw_step (f1 := (1055, [some (.ref (am_B + 1)), some (.ref 0), some (.ref 65), some (.int i)], [])) (w1 := w2) (lt_f rfl (Nat.le_of_ble_eq_true rfl)) rfl ?_
  refine aw_step (f1 := (1056, [some (.ref (am_B + 1)), some (.ref 0), some (.ref 65), some (.int i)], [(.ref 65)])) (w1 := w2) (lt_f rfl (Nat.le_of_ble_eq_true rfl)) rfl ?_
  refine x_cv (z := 162) (p := 65) (as := []) (st1 := []) (Hw2) 1059 (lt_f rfl (Nat.le_of_ble_eq_true rfl)) rfl rfl rfl rfl rfl rfl rfl (Nat.le_of_ble_eq_true rfl) (Nat.le_of_ble_eq_true rfl) ((tm_forget  (b := x1.toInt) (w2M)).deep (by omega)) ?_
  rintro _ w4 ⟨⟨Hw4, w4l⟩, x3, rfl, x3t⟩
  refine ⟨w4l, ?_⟩
  show aw (some X) _ 193 _ (1059, [some (.ref (am_B + 1)), some (.ref 0), some (.ref 65), some (.int i)], [(.int x3)]) w4
  refine aw_step (f1 := (1060, [some (.ref (am_B + 1)), some (.ref 0), some (.ref 65), some (.int i)], [])) (w1 := w4) (lt_f rfl (Nat.le_of_ble_eq_true rfl)) rfl ?_
  refine aw_step (f1 := (1476, [some (.ref (am_B + 1)), some (.ref 0), some (.ref 65), some (.int i)], [])) (w1 := w4) (lt_f rfl (Nat.le_of_ble_eq_true rfl)) rfl ?_
  exact K w4 Hw4
set_option maxRecDepth 100000 in
theorem lk_25 {X : List Int32} {Q : Option Value → am_W → Prop} {w : am_W} {i : Int32} (h0 : 0 ≤ i.toInt) (h6 : i.toInt + 6 ≤ X.length) (hX : X.length ≤ 384) (H : TI w) (K : ∀ w1, TI w1 → aw (some X) 60 193 Q (1476, [some (.ref (am_B + 1)), some (.ref 0), some (.ref 65), some (.int i)], []) w1) : aw (some X) 60 193 Q (1063, [some (.ref (am_B + 1)), some (.ref 0), some (.ref 65), some (.int i)], []) w := by
  refine aw_step (f1 := (1064, [some (.ref (am_B + 1)), some (.ref 0), some (.ref 65), some (.int i)], [(.ref 0)])) (w1 := w) (lt_f rfl (Nat.le_of_ble_eq_true rfl)) rfl ?_
  refine x_cv (z := 85) (p := 0) (as := []) (st1 := []) (H.inv) 1067 (lt_f rfl (Nat.le_of_ble_eq_true rfl)) rfl rfl rfl rfl rfl rfl rfl (Nat.le_of_ble_eq_true rfl) (Nat.le_of_ble_eq_true rfl) ((tc_where  H).deep (by omega)) ?_
  rintro _ w2 ⟨⟨Hw2, w2l⟩, y1, rfl⟩
  refine ⟨w2l, ?_⟩
  show aw (some X) _ 193 _ (1067, [some (.ref (am_B + 1)), some (.ref 0), some (.ref 65), some (.int i)], [(.long y1)]) w2
  refine aw_step (f1 := (1068, [some (.ref (am_B + 1)), some (.ref 0), some (.ref 65), some (.int i)], [])) (w1 := w2) (lt_f rfl (Nat.le_of_ble_eq_true rfl)) rfl ?_
  refine aw_step (f1 := (1069, [some (.ref (am_B + 1)), some (.ref 0), some (.ref 65), some (.int i)], [(.ref 65)])) (w1 := w2) (lt_f rfl (Nat.le_of_ble_eq_true rfl)) rfl ?_
  refine x_cv (z := 163) (p := 65) (as := []) (st1 := []) (Hw2.inv) 1072 (lt_f rfl (Nat.le_of_ble_eq_true rfl)) rfl rfl rfl rfl rfl rfl rfl (Nat.le_of_ble_eq_true rfl) (Nat.le_of_ble_eq_true rfl) ((tm_where  Hw2).deep (by omega)) ?_
  rintro _ w4 ⟨⟨Hw4, w4l⟩, y3, rfl⟩
  refine ⟨w4l, ?_⟩
  show aw (some X) _ 193 _ (1072, [some (.ref (am_B + 1)), some (.ref 0), some (.ref 65), some (.int i)], [(.long y3)]) w4
  refine aw_step (f1 := (1073, [some (.ref (am_B + 1)), some (.ref 0), some (.ref 65), some (.int i)], [])) (w1 := w4) (lt_f rfl (Nat.le_of_ble_eq_true rfl)) rfl ?_
  refine aw_step (f1 := (1476, [some (.ref (am_B + 1)), some (.ref 0), some (.ref 65), some (.int i)], [])) (w1 := w4) (lt_f rfl (Nat.le_of_ble_eq_true rfl)) rfl ?_
  exact K w4 Hw4
set_option maxRecDepth 100000 in
theorem lk_26 {X : List Int32} {Q : Option Value → am_W → Prop} {w : am_W} {i : Int32} (h0 : 0 ≤ i.toInt) (h6 : i.toInt + 6 ≤ X.length) (hX : X.length ≤ 384) (H : TI w) (K : ∀ w1, TI w1 → aw (some X) 60 193 Q (1476, [some (.ref (am_B + 1)), some (.ref 0), some (.ref 65), some (.int i)], []) w1) : aw (some X) 60 193 Q (1076, [some (.ref (am_B + 1)), some (.ref 0), some (.ref 65), some (.int i)], []) w := by
  refine aw_step (f1 := (1077, [some (.ref (am_B + 1)), some (.ref 0), some (.ref 65), some (.int i)], [(.ref 0)])) (w1 := w) (lt_f rfl (Nat.le_of_ble_eq_true rfl)) rfl ?_
  refine aw_step (f1 := (1078, [some (.ref (am_B + 1)), some (.ref 0), some (.ref 65), some (.int i)], [(.ref (am_B + 1)), (.ref 0)])) (w1 := w) (lt_f rfl (Nat.le_of_ble_eq_true rfl)) rfl ?_
  refine aw_step (f1 := (1079, [some (.ref (am_B + 1)), some (.ref 0), some (.ref 65), some (.int i)], [(.int i), (.ref (am_B + 1)), (.ref 0)])) (w1 := w) (lt_f rfl (Nat.le_of_ble_eq_true rfl)) rfl ?_
  refine x_i (pc1 := 1080) (ls1 := [some (.ref (am_B + 1)), some (.ref 0), some (.ref 65), some (.int i)]) (st1 := [(.int i), (.ref (am_B + 1)), (.ref 0)]) (lt_f rfl (Nat.le_of_ble_eq_true rfl)) rfl fun x1 e2 => ?_
  have e2t : x1.toInt = 1 := by rw [e2]; rfl
  refine x_i (pc1 := 1081) (ls1 := [some (.ref (am_B + 1)), some (.ref 0), some (.ref 65), some (.int i)]) (st1 := [(.ref (am_B + 1)), (.ref 0)]) (lt_f rfl (Nat.le_of_ble_eq_true rfl)) rfl fun x3 e4 => ?_
  have e4 : x3 = i + x1 := e4
  have e4t : x3.toInt = i.toInt + x1.toInt := by rw [e4]; exact n_add (by omega) (by omega)
  refine x_ia 1082 (lt_f rfl (Nat.le_of_ble_eq_true rfl)) rfl (by omega) (by omega) ?_
  rw [show x3.toInt = i.toInt + 1 by omega]
  show aw (some X) _ 193 _ (1082, [some (.ref (am_B + 1)), some (.ref 0), some (.ref 65), some (.int i)], [(.int (sx X (i.toInt + 1))), (.ref 0)]) w
  refine x_cv (z := 86) (p := 0) (as := [(.int (sx X (i.toInt + 1)))]) (st1 := []) (H.inv) 1085 (lt_f rfl (Nat.le_of_ble_eq_true rfl)) rfl rfl rfl rfl rfl rfl rfl (Nat.le_of_ble_eq_true rfl) (Nat.le_of_ble_eq_true rfl) ((tc_ask (sx X (i.toInt + 1)) H).deep (by omega)) ?_
  rintro _ w6 ⟨⟨Hw6, w6l⟩, x5, rfl⟩
  refine ⟨w6l, ?_⟩
  show aw (some X) _ 193 _ (1085, [some (.ref (am_B + 1)), some (.ref 0), some (.ref 65), some (.int i)], [(.int x5)]) w6
  refine aw_step (f1 := (1086, [some (.ref (am_B + 1)), some (.ref 0), some (.ref 65), some (.int i)], [])) (w1 := w6) (lt_f rfl (Nat.le_of_ble_eq_true rfl)) rfl ?_
  refine aw_step (f1 := (1087, [some (.ref (am_B + 1)), some (.ref 0), some (.ref 65), some (.int i)], [(.ref 65)])) (w1 := w6) (lt_f rfl (Nat.le_of_ble_eq_true rfl)) rfl ?_
  refine aw_step (f1 := (1088, [some (.ref (am_B + 1)), some (.ref 0), some (.ref 65), some (.int i)], [(.ref (am_B + 1)), (.ref 65)])) (w1 := w6) (lt_f rfl (Nat.le_of_ble_eq_true rfl)) rfl ?_
  refine aw_step (f1 := (1089, [some (.ref (am_B + 1)), some (.ref 0), some (.ref 65), some (.int i)], [(.int i), (.ref (am_B + 1)), (.ref 65)])) (w1 := w6) (lt_f rfl (Nat.le_of_ble_eq_true rfl)) rfl ?_
  refine x_i (pc1 := 1090) (ls1 := [some (.ref (am_B + 1)), some (.ref 0), some (.ref 65), some (.int i)]) (st1 := [(.int i), (.ref (am_B + 1)), (.ref 65)]) (lt_f rfl (Nat.le_of_ble_eq_true rfl)) rfl fun x7 e8 => ?_
  have e8t : x7.toInt = 1 := by rw [e8]; rfl
  refine x_i (pc1 := 1091) (ls1 := [some (.ref (am_B + 1)), some (.ref 0), some (.ref 65), some (.int i)]) (st1 := [(.ref (am_B + 1)), (.ref 65)]) (lt_f rfl (Nat.le_of_ble_eq_true rfl)) rfl fun x9 e10 => ?_
  have e10 : x9 = i + x7 := e10
  have e10t : x9.toInt = i.toInt + x7.toInt := by rw [e10]; exact n_add (by omega) (by omega)
  refine x_ia 1092 (lt_f rfl (Nat.le_of_ble_eq_true rfl)) rfl (by omega) (by omega) ?_
  rw [show x9.toInt = i.toInt + 1 by omega]
  show aw (some X) _ 193 _ (1092, [some (.ref (am_B + 1)), some (.ref 0), some (.ref 65), some (.int i)], [(.int (sx X (i.toInt + 1))), (.ref 65)]) w6
  refine x_cv (z := 165) (p := 65) (as := [(.int (sx X (i.toInt + 1)))]) (st1 := []) (Hw6.inv) 1095 (lt_f rfl (Nat.le_of_ble_eq_true rfl)) rfl rfl rfl rfl rfl rfl rfl (Nat.le_of_ble_eq_true rfl) (Nat.le_of_ble_eq_true rfl) ((tm_ask (sx X (i.toInt + 1)) Hw6).deep (by omega)) ?_
  rintro _ w12 ⟨⟨Hw12, w12l⟩, x11, rfl⟩
  refine ⟨w12l, ?_⟩
  show aw (some X) _ 193 _ (1095, [some (.ref (am_B + 1)), some (.ref 0), some (.ref 65), some (.int i)], [(.int x11)]) w12
  refine aw_step (f1 := (1096, [some (.ref (am_B + 1)), some (.ref 0), some (.ref 65), some (.int i)], [])) (w1 := w12) (lt_f rfl (Nat.le_of_ble_eq_true rfl)) rfl ?_
  refine aw_step (f1 := (1476, [some (.ref (am_B + 1)), some (.ref 0), some (.ref 65), some (.int i)], [])) (w1 := w12) (lt_f rfl (Nat.le_of_ble_eq_true rfl)) rfl ?_
  exact K w12 Hw12
set_option maxRecDepth 100000 in
theorem lk_27 {X : List Int32} {Q : Option Value → am_W → Prop} {w : am_W} {i : Int32} (h0 : 0 ≤ i.toInt) (h6 : i.toInt + 6 ≤ X.length) (hX : X.length ≤ 384) (H : TI w) (K : ∀ w1, TI w1 → aw (some X) 60 193 Q (1476, [some (.ref (am_B + 1)), some (.ref 0), some (.ref 65), some (.int i)], []) w1) : aw (some X) 60 193 Q (1099, [some (.ref (am_B + 1)), some (.ref 0), some (.ref 65), some (.int i)], []) w := by
  refine aw_step (f1 := (1100, [some (.ref (am_B + 1)), some (.ref 0), some (.ref 65), some (.int i)], [(.ref 0)])) (w1 := w) (lt_f rfl (Nat.le_of_ble_eq_true rfl)) rfl ?_
  refine aw_step (f1 := (1101, [some (.ref (am_B + 1)), some (.ref 0), some (.ref 65), some (.int i)], [(.ref (am_B + 1)), (.ref 0)])) (w1 := w) (lt_f rfl (Nat.le_of_ble_eq_true rfl)) rfl ?_
  refine aw_step (f1 := (1102, [some (.ref (am_B + 1)), some (.ref 0), some (.ref 65), some (.int i)], [(.int i), (.ref (am_B + 1)), (.ref 0)])) (w1 := w) (lt_f rfl (Nat.le_of_ble_eq_true rfl)) rfl ?_
  refine x_i (pc1 := 1103) (ls1 := [some (.ref (am_B + 1)), some (.ref 0), some (.ref 65), some (.int i)]) (st1 := [(.int i), (.ref (am_B + 1)), (.ref 0)]) (lt_f rfl (Nat.le_of_ble_eq_true rfl)) rfl fun x1 e2 => ?_
  have e2t : x1.toInt = 1 := by rw [e2]; rfl
  refine x_i (pc1 := 1104) (ls1 := [some (.ref (am_B + 1)), some (.ref 0), some (.ref 65), some (.int i)]) (st1 := [(.ref (am_B + 1)), (.ref 0)]) (lt_f rfl (Nat.le_of_ble_eq_true rfl)) rfl fun x3 e4 => ?_
  have e4 : x3 = i + x1 := e4
  have e4t : x3.toInt = i.toInt + x1.toInt := by rw [e4]; exact n_add (by omega) (by omega)
  refine x_ia 1105 (lt_f rfl (Nat.le_of_ble_eq_true rfl)) rfl (by omega) (by omega) ?_
  rw [show x3.toInt = i.toInt + 1 by omega]
  show aw (some X) _ 193 _ (1105, [some (.ref (am_B + 1)), some (.ref 0), some (.ref 65), some (.int i)], [(.int (sx X (i.toInt + 1))), (.ref 0)]) w
  refine aw_step (f1 := (1106, [some (.ref (am_B + 1)), some (.ref 0), some (.ref 65), some (.int i)], [(.ref (am_B + 1)), (.int (sx X (i.toInt + 1))), (.ref 0)])) (w1 := w) (lt_f rfl (Nat.le_of_ble_eq_true rfl)) rfl ?_
  refine aw_step (f1 := (1107, [some (.ref (am_B + 1)), some (.ref 0), some (.ref 65), some (.int i)], [(.int i), (.ref (am_B + 1)), (.int (sx X (i.toInt + 1))), (.ref 0)])) (w1 := w) (lt_f rfl (Nat.le_of_ble_eq_true rfl)) rfl ?_
  refine x_i (pc1 := 1108) (ls1 := [some (.ref (am_B + 1)), some (.ref 0), some (.ref 65), some (.int i)]) (st1 := [(.int i), (.ref (am_B + 1)), (.int (sx X (i.toInt + 1))), (.ref 0)]) (lt_f rfl (Nat.le_of_ble_eq_true rfl)) rfl fun x5 e6 => ?_
  have e6t : x5.toInt = 2 := by rw [e6]; rfl
  refine x_i (pc1 := 1109) (ls1 := [some (.ref (am_B + 1)), some (.ref 0), some (.ref 65), some (.int i)]) (st1 := [(.ref (am_B + 1)), (.int (sx X (i.toInt + 1))), (.ref 0)]) (lt_f rfl (Nat.le_of_ble_eq_true rfl)) rfl fun x7 e8 => ?_
  have e8 : x7 = i + x5 := e8
  have e8t : x7.toInt = i.toInt + x5.toInt := by rw [e8]; exact n_add (by omega) (by omega)
  refine x_ia 1110 (lt_f rfl (Nat.le_of_ble_eq_true rfl)) rfl (by omega) (by omega) ?_
  rw [show x7.toInt = i.toInt + 2 by omega]
  show aw (some X) _ 193 _ (1110, [some (.ref (am_B + 1)), some (.ref 0), some (.ref 65), some (.int i)], [(.int (sx X (i.toInt + 2))), (.int (sx X (i.toInt + 1))), (.ref 0)]) w
  refine aw_step (f1 := (1111, [some (.ref (am_B + 1)), some (.ref 0), some (.ref 65), some (.int i)], [(.ref (am_B + 1)), (.int (sx X (i.toInt + 2))), (.int (sx X (i.toInt + 1))), (.ref 0)])) (w1 := w) (lt_f rfl (Nat.le_of_ble_eq_true rfl)) rfl ?_
  refine aw_step (f1 := (1112, [some (.ref (am_B + 1)), some (.ref 0), some (.ref 65), some (.int i)], [(.int i), (.ref (am_B + 1)), (.int (sx X (i.toInt + 2))), (.int (sx X (i.toInt + 1))), (.ref 0)])) (w1 := w) (lt_f rfl (Nat.le_of_ble_eq_true rfl)) rfl ?_
  refine x_i (pc1 := 1113) (ls1 := [some (.ref (am_B + 1)), some (.ref 0), some (.ref 65), some (.int i)]) (st1 := [(.int i), (.ref (am_B + 1)), (.int (sx X (i.toInt + 2))), (.int (sx X (i.toInt + 1))), (.ref 0)]) (lt_f rfl (Nat.le_of_ble_eq_true rfl)) rfl fun x9 e10 => ?_
  have e10t : x9.toInt = 3 := by rw [e10]; rfl
  refine x_i (pc1 := 1114) (ls1 := [some (.ref (am_B + 1)), some (.ref 0), some (.ref 65), some (.int i)]) (st1 := [(.ref (am_B + 1)), (.int (sx X (i.toInt + 2))), (.int (sx X (i.toInt + 1))), (.ref 0)]) (lt_f rfl (Nat.le_of_ble_eq_true rfl)) rfl fun x11 e12 => ?_
  have e12 : x11 = i + x9 := e12
  have e12t : x11.toInt = i.toInt + x9.toInt := by rw [e12]; exact n_add (by omega) (by omega)
  refine x_ia 1115 (lt_f rfl (Nat.le_of_ble_eq_true rfl)) rfl (by omega) (by omega) ?_
  rw [show x11.toInt = i.toInt + 3 by omega]
  show aw (some X) _ 193 _ (1115, [some (.ref (am_B + 1)), some (.ref 0), some (.ref 65), some (.int i)], [(.int (sx X (i.toInt + 3))), (.int (sx X (i.toInt + 2))), (.int (sx X (i.toInt + 1))), (.ref 0)]) w
  refine x_cv (z := 87) (p := 0) (as := [(.int (sx X (i.toInt + 1))), (.int (sx X (i.toInt + 2))), (.int (sx X (i.toInt + 3)))]) (st1 := []) (H.inv) 1118 (lt_f rfl (Nat.le_of_ble_eq_true rfl)) rfl rfl rfl rfl rfl rfl rfl (Nat.le_of_ble_eq_true rfl) (Nat.le_of_ble_eq_true rfl) ((tc_after (sx X (i.toInt + 1)) (sx X (i.toInt + 2)) (sx X (i.toInt + 3)) H).deep (by omega)) ?_
  rintro _ w14 ⟨⟨Hw14, w14l⟩, y13, rfl⟩
  refine ⟨w14l, ?_⟩
  show aw (some X) _ 193 _ (1118, [some (.ref (am_B + 1)), some (.ref 0), some (.ref 65), some (.int i)], [(.long y13)]) w14
  refine aw_step (f1 := (1119, [some (.ref (am_B + 1)), some (.ref 0), some (.ref 65), some (.int i)], [])) (w1 := w14) (lt_f rfl (Nat.le_of_ble_eq_true rfl)) rfl ?_
  refine aw_step (f1 := (1120, [some (.ref (am_B + 1)), some (.ref 0), some (.ref 65), some (.int i)], [(.ref 65)])) (w1 := w14) (lt_f rfl (Nat.le_of_ble_eq_true rfl)) rfl ?_
  refine aw_step (f1 := (1121, [some (.ref (am_B + 1)), some (.ref 0), some (.ref 65), some (.int i)], [(.ref (am_B + 1)), (.ref 65)])) (w1 := w14) (lt_f rfl (Nat.le_of_ble_eq_true rfl)) rfl ?_
  refine aw_step (f1 := (1122, [some (.ref (am_B + 1)), some (.ref 0), some (.ref 65), some (.int i)], [(.int i), (.ref (am_B + 1)), (.ref 65)])) (w1 := w14) (lt_f rfl (Nat.le_of_ble_eq_true rfl)) rfl ?_
  refine x_i (pc1 := 1123) (ls1 := [some (.ref (am_B + 1)), some (.ref 0), some (.ref 65), some (.int i)]) (st1 := [(.int i), (.ref (am_B + 1)), (.ref 65)]) (lt_f rfl (Nat.le_of_ble_eq_true rfl)) rfl fun x15 e16 => ?_
  have e16t : x15.toInt = 1 := by rw [e16]; rfl
  refine x_i (pc1 := 1124) (ls1 := [some (.ref (am_B + 1)), some (.ref 0), some (.ref 65), some (.int i)]) (st1 := [(.ref (am_B + 1)), (.ref 65)]) (lt_f rfl (Nat.le_of_ble_eq_true rfl)) rfl fun x17 e18 => ?_
  have e18 : x17 = i + x15 := e18
  have e18t : x17.toInt = i.toInt + x15.toInt := by rw [e18]; exact n_add (by omega) (by omega)
  refine x_ia 1125 (lt_f rfl (Nat.le_of_ble_eq_true rfl)) rfl (by omega) (by omega) ?_
  rw [show x17.toInt = i.toInt + 1 by omega]
  show aw (some X) _ 193 _ (1125, [some (.ref (am_B + 1)), some (.ref 0), some (.ref 65), some (.int i)], [(.int (sx X (i.toInt + 1))), (.ref 65)]) w14
  refine aw_step (f1 := (1126, [some (.ref (am_B + 1)), some (.ref 0), some (.ref 65), some (.int i)], [(.ref (am_B + 1)), (.int (sx X (i.toInt + 1))), (.ref 65)])) (w1 := w14) (lt_f rfl (Nat.le_of_ble_eq_true rfl)) rfl ?_
  refine aw_step (f1 := (1127, [some (.ref (am_B + 1)), some (.ref 0), some (.ref 65), some (.int i)], [(.int i), (.ref (am_B + 1)), (.int (sx X (i.toInt + 1))), (.ref 65)])) (w1 := w14) (lt_f rfl (Nat.le_of_ble_eq_true rfl)) rfl ?_
  refine x_i (pc1 := 1128) (ls1 := [some (.ref (am_B + 1)), some (.ref 0), some (.ref 65), some (.int i)]) (st1 := [(.int i), (.ref (am_B + 1)), (.int (sx X (i.toInt + 1))), (.ref 65)]) (lt_f rfl (Nat.le_of_ble_eq_true rfl)) rfl fun x19 e20 => ?_
  have e20t : x19.toInt = 2 := by rw [e20]; rfl
  refine x_i (pc1 := 1129) (ls1 := [some (.ref (am_B + 1)), some (.ref 0), some (.ref 65), some (.int i)]) (st1 := [(.ref (am_B + 1)), (.int (sx X (i.toInt + 1))), (.ref 65)]) (lt_f rfl (Nat.le_of_ble_eq_true rfl)) rfl fun x21 e22 => ?_
  have e22 : x21 = i + x19 := e22
  have e22t : x21.toInt = i.toInt + x19.toInt := by rw [e22]; exact n_add (by omega) (by omega)
  refine x_ia 1130 (lt_f rfl (Nat.le_of_ble_eq_true rfl)) rfl (by omega) (by omega) ?_
  rw [show x21.toInt = i.toInt + 2 by omega]
  show aw (some X) _ 193 _ (1130, [some (.ref (am_B + 1)), some (.ref 0), some (.ref 65), some (.int i)], [(.int (sx X (i.toInt + 2))), (.int (sx X (i.toInt + 1))), (.ref 65)]) w14
  refine aw_step (f1 := (1131, [some (.ref (am_B + 1)), some (.ref 0), some (.ref 65), some (.int i)], [(.ref (am_B + 1)), (.int (sx X (i.toInt + 2))), (.int (sx X (i.toInt + 1))), (.ref 65)])) (w1 := w14) (lt_f rfl (Nat.le_of_ble_eq_true rfl)) rfl ?_
  refine aw_step (f1 := (1132, [some (.ref (am_B + 1)), some (.ref 0), some (.ref 65), some (.int i)], [(.int i), (.ref (am_B + 1)), (.int (sx X (i.toInt + 2))), (.int (sx X (i.toInt + 1))), (.ref 65)])) (w1 := w14) (lt_f rfl (Nat.le_of_ble_eq_true rfl)) rfl ?_
  refine x_i (pc1 := 1133) (ls1 := [some (.ref (am_B + 1)), some (.ref 0), some (.ref 65), some (.int i)]) (st1 := [(.int i), (.ref (am_B + 1)), (.int (sx X (i.toInt + 2))), (.int (sx X (i.toInt + 1))), (.ref 65)]) (lt_f rfl (Nat.le_of_ble_eq_true rfl)) rfl fun x23 e24 => ?_
  have e24t : x23.toInt = 3 := by rw [e24]; rfl
  refine x_i (pc1 := 1134) (ls1 := [some (.ref (am_B + 1)), some (.ref 0), some (.ref 65), some (.int i)]) (st1 := [(.ref (am_B + 1)), (.int (sx X (i.toInt + 2))), (.int (sx X (i.toInt + 1))), (.ref 65)]) (lt_f rfl (Nat.le_of_ble_eq_true rfl)) rfl fun x25 e26 => ?_
  have e26 : x25 = i + x23 := e26
  have e26t : x25.toInt = i.toInt + x23.toInt := by rw [e26]; exact n_add (by omega) (by omega)
  refine x_ia 1135 (lt_f rfl (Nat.le_of_ble_eq_true rfl)) rfl (by omega) (by omega) ?_
  rw [show x25.toInt = i.toInt + 3 by omega]
  show aw (some X) _ 193 _ (1135, [some (.ref (am_B + 1)), some (.ref 0), some (.ref 65), some (.int i)], [(.int (sx X (i.toInt + 3))), (.int (sx X (i.toInt + 2))), (.int (sx X (i.toInt + 1))), (.ref 65)]) w14
  refine x_cv (z := 167) (p := 65) (as := [(.int (sx X (i.toInt + 1))), (.int (sx X (i.toInt + 2))), (.int (sx X (i.toInt + 3)))]) (st1 := []) (Hw14.inv) 1138 (lt_f rfl (Nat.le_of_ble_eq_true rfl)) rfl rfl rfl rfl rfl rfl rfl (Nat.le_of_ble_eq_true rfl) (Nat.le_of_ble_eq_true rfl) ((tm_after (sx X (i.toInt + 1)) (sx X (i.toInt + 2)) (sx X (i.toInt + 3)) Hw14).deep (by omega)) ?_
  rintro _ w28 ⟨⟨Hw28, w28l⟩, y27, rfl⟩
  refine ⟨w28l, ?_⟩
  show aw (some X) _ 193 _ (1138, [some (.ref (am_B + 1)), some (.ref 0), some (.ref 65), some (.int i)], [(.long y27)]) w28
  refine aw_step (f1 := (1139, [some (.ref (am_B + 1)), some (.ref 0), some (.ref 65), some (.int i)], [])) (w1 := w28) (lt_f rfl (Nat.le_of_ble_eq_true rfl)) rfl ?_
  refine aw_step (f1 := (1476, [some (.ref (am_B + 1)), some (.ref 0), some (.ref 65), some (.int i)], [])) (w1 := w28) (lt_f rfl (Nat.le_of_ble_eq_true rfl)) rfl ?_
  exact K w28 Hw28
set_option maxRecDepth 100000 in
theorem lk_28 {X : List Int32} {Q : Option Value → am_W → Prop} {w : am_W} {i : Int32} (h0 : 0 ≤ i.toInt) (h6 : i.toInt + 6 ≤ X.length) (hX : X.length ≤ 384) (H : TI w) (K : ∀ w1, TI w1 → aw (some X) 60 193 Q (1476, [some (.ref (am_B + 1)), some (.ref 0), some (.ref 65), some (.int i)], []) w1) : aw (some X) 60 193 Q (1142, [some (.ref (am_B + 1)), some (.ref 0), some (.ref 65), some (.int i)], []) w := by
  refine aw_step (f1 := (1143, [some (.ref (am_B + 1)), some (.ref 0), some (.ref 65), some (.int i)], [(.ref 0)])) (w1 := w) (lt_f rfl (Nat.le_of_ble_eq_true rfl)) rfl ?_
  refine aw_step (f1 := (1144, [some (.ref (am_B + 1)), some (.ref 0), some (.ref 65), some (.int i)], [(.ref (am_B + 1)), (.ref 0)])) (w1 := w) (lt_f rfl (Nat.le_of_ble_eq_true rfl)) rfl ?_
  refine aw_step (f1 := (1145, [some (.ref (am_B + 1)), some (.ref 0), some (.ref 65), some (.int i)], [(.int i), (.ref (am_B + 1)), (.ref 0)])) (w1 := w) (lt_f rfl (Nat.le_of_ble_eq_true rfl)) rfl ?_
  refine x_i (pc1 := 1146) (ls1 := [some (.ref (am_B + 1)), some (.ref 0), some (.ref 65), some (.int i)]) (st1 := [(.int i), (.ref (am_B + 1)), (.ref 0)]) (lt_f rfl (Nat.le_of_ble_eq_true rfl)) rfl fun x1 e2 => ?_
  have e2t : x1.toInt = 1 := by rw [e2]; rfl
  refine x_i (pc1 := 1147) (ls1 := [some (.ref (am_B + 1)), some (.ref 0), some (.ref 65), some (.int i)]) (st1 := [(.ref (am_B + 1)), (.ref 0)]) (lt_f rfl (Nat.le_of_ble_eq_true rfl)) rfl fun x3 e4 => ?_
  have e4 : x3 = i + x1 := e4
  have e4t : x3.toInt = i.toInt + x1.toInt := by rw [e4]; exact n_add (by omega) (by omega)
  refine x_ia 1148 (lt_f rfl (Nat.le_of_ble_eq_true rfl)) rfl (by omega) (by omega) ?_
  rw [show x3.toInt = i.toInt + 1 by omega]
  show aw (some X) _ 193 _ (1148, [some (.ref (am_B + 1)), some (.ref 0), some (.ref 65), some (.int i)], [(.int (sx X (i.toInt + 1))), (.ref 0)]) w
  refine aw_step (f1 := (1149, [some (.ref (am_B + 1)), some (.ref 0), some (.ref 65), some (.int i)], [(.ref (am_B + 1)), (.int (sx X (i.toInt + 1))), (.ref 0)])) (w1 := w) (lt_f rfl (Nat.le_of_ble_eq_true rfl)) rfl ?_
  refine aw_step (f1 := (1150, [some (.ref (am_B + 1)), some (.ref 0), some (.ref 65), some (.int i)], [(.int i), (.ref (am_B + 1)), (.int (sx X (i.toInt + 1))), (.ref 0)])) (w1 := w) (lt_f rfl (Nat.le_of_ble_eq_true rfl)) rfl ?_
  refine x_i (pc1 := 1151) (ls1 := [some (.ref (am_B + 1)), some (.ref 0), some (.ref 65), some (.int i)]) (st1 := [(.int i), (.ref (am_B + 1)), (.int (sx X (i.toInt + 1))), (.ref 0)]) (lt_f rfl (Nat.le_of_ble_eq_true rfl)) rfl fun x5 e6 => ?_
  have e6t : x5.toInt = 2 := by rw [e6]; rfl
  refine x_i (pc1 := 1152) (ls1 := [some (.ref (am_B + 1)), some (.ref 0), some (.ref 65), some (.int i)]) (st1 := [(.ref (am_B + 1)), (.int (sx X (i.toInt + 1))), (.ref 0)]) (lt_f rfl (Nat.le_of_ble_eq_true rfl)) rfl fun x7 e8 => ?_
  have e8 : x7 = i + x5 := e8
  have e8t : x7.toInt = i.toInt + x5.toInt := by rw [e8]; exact n_add (by omega) (by omega)
  refine x_ia 1153 (lt_f rfl (Nat.le_of_ble_eq_true rfl)) rfl (by omega) (by omega) ?_
  rw [show x7.toInt = i.toInt + 2 by omega]
  show aw (some X) _ 193 _ (1153, [some (.ref (am_B + 1)), some (.ref 0), some (.ref 65), some (.int i)], [(.int (sx X (i.toInt + 2))), (.int (sx X (i.toInt + 1))), (.ref 0)]) w
  refine aw_step (f1 := (1154, [some (.ref (am_B + 1)), some (.ref 0), some (.ref 65), some (.int i)], [(.ref (am_B + 1)), (.int (sx X (i.toInt + 2))), (.int (sx X (i.toInt + 1))), (.ref 0)])) (w1 := w) (lt_f rfl (Nat.le_of_ble_eq_true rfl)) rfl ?_
  refine aw_step (f1 := (1155, [some (.ref (am_B + 1)), some (.ref 0), some (.ref 65), some (.int i)], [(.int i), (.ref (am_B + 1)), (.int (sx X (i.toInt + 2))), (.int (sx X (i.toInt + 1))), (.ref 0)])) (w1 := w) (lt_f rfl (Nat.le_of_ble_eq_true rfl)) rfl ?_
  refine x_i (pc1 := 1156) (ls1 := [some (.ref (am_B + 1)), some (.ref 0), some (.ref 65), some (.int i)]) (st1 := [(.int i), (.ref (am_B + 1)), (.int (sx X (i.toInt + 2))), (.int (sx X (i.toInt + 1))), (.ref 0)]) (lt_f rfl (Nat.le_of_ble_eq_true rfl)) rfl fun x9 e10 => ?_
  have e10t : x9.toInt = 3 := by rw [e10]; rfl
  refine x_i (pc1 := 1157) (ls1 := [some (.ref (am_B + 1)), some (.ref 0), some (.ref 65), some (.int i)]) (st1 := [(.ref (am_B + 1)), (.int (sx X (i.toInt + 2))), (.int (sx X (i.toInt + 1))), (.ref 0)]) (lt_f rfl (Nat.le_of_ble_eq_true rfl)) rfl fun x11 e12 => ?_
  have e12 : x11 = i + x9 := e12
  have e12t : x11.toInt = i.toInt + x9.toInt := by rw [e12]; exact n_add (by omega) (by omega)
  refine x_ia 1158 (lt_f rfl (Nat.le_of_ble_eq_true rfl)) rfl (by omega) (by omega) ?_
  rw [show x11.toInt = i.toInt + 3 by omega]
  show aw (some X) _ 193 _ (1158, [some (.ref (am_B + 1)), some (.ref 0), some (.ref 65), some (.int i)], [(.int (sx X (i.toInt + 3))), (.int (sx X (i.toInt + 2))), (.int (sx X (i.toInt + 1))), (.ref 0)]) w
  refine aw_step (f1 := (1159, [some (.ref (am_B + 1)), some (.ref 0), some (.ref 65), some (.int i)], [(.ref (am_B + 1)), (.int (sx X (i.toInt + 3))), (.int (sx X (i.toInt + 2))), (.int (sx X (i.toInt + 1))), (.ref 0)])) (w1 := w) (lt_f rfl (Nat.le_of_ble_eq_true rfl)) rfl ?_
  refine aw_step (f1 := (1160, [some (.ref (am_B + 1)), some (.ref 0), some (.ref 65), some (.int i)], [(.int i), (.ref (am_B + 1)), (.int (sx X (i.toInt + 3))), (.int (sx X (i.toInt + 2))), (.int (sx X (i.toInt + 1))), (.ref 0)])) (w1 := w) (lt_f rfl (Nat.le_of_ble_eq_true rfl)) rfl ?_
  refine x_i (pc1 := 1161) (ls1 := [some (.ref (am_B + 1)), some (.ref 0), some (.ref 65), some (.int i)]) (st1 := [(.int i), (.ref (am_B + 1)), (.int (sx X (i.toInt + 3))), (.int (sx X (i.toInt + 2))), (.int (sx X (i.toInt + 1))), (.ref 0)]) (lt_f rfl (Nat.le_of_ble_eq_true rfl)) rfl fun x13 e14 => ?_
  have e14t : x13.toInt = 4 := by rw [e14]; rfl
  refine x_i (pc1 := 1162) (ls1 := [some (.ref (am_B + 1)), some (.ref 0), some (.ref 65), some (.int i)]) (st1 := [(.ref (am_B + 1)), (.int (sx X (i.toInt + 3))), (.int (sx X (i.toInt + 2))), (.int (sx X (i.toInt + 1))), (.ref 0)]) (lt_f rfl (Nat.le_of_ble_eq_true rfl)) rfl fun x15 e16 => ?_
  have e16 : x15 = i + x13 := e16
  have e16t : x15.toInt = i.toInt + x13.toInt := by rw [e16]; exact n_add (by omega) (by omega)
  refine x_ia 1163 (lt_f rfl (Nat.le_of_ble_eq_true rfl)) rfl (by omega) (by omega) ?_
  rw [show x15.toInt = i.toInt + 4 by omega]
  show aw (some X) _ 193 _ (1163, [some (.ref (am_B + 1)), some (.ref 0), some (.ref 65), some (.int i)], [(.int (sx X (i.toInt + 4))), (.int (sx X (i.toInt + 3))), (.int (sx X (i.toInt + 2))), (.int (sx X (i.toInt + 1))), (.ref 0)]) w
  refine x_cv (z := 88) (p := 0) (as := [(.int (sx X (i.toInt + 1))), (.int (sx X (i.toInt + 2))), (.int (sx X (i.toInt + 3))), (.int (sx X (i.toInt + 4)))]) (st1 := []) (H.inv) 1166 (lt_f rfl (Nat.le_of_ble_eq_true rfl)) rfl rfl rfl rfl rfl rfl rfl (Nat.le_of_ble_eq_true rfl) (Nat.le_of_ble_eq_true rfl) ((tc_ways (sx X (i.toInt + 1)) (sx X (i.toInt + 2)) (sx X (i.toInt + 3)) (sx X (i.toInt + 4)) H).deep (by omega)) ?_
  rintro _ w18 ⟨⟨Hw18, w18l⟩, y17, rfl⟩
  refine ⟨w18l, ?_⟩
  show aw (some X) _ 193 _ (1166, [some (.ref (am_B + 1)), some (.ref 0), some (.ref 65), some (.int i)], [(.long y17)]) w18
  refine aw_step (f1 := (1167, [some (.ref (am_B + 1)), some (.ref 0), some (.ref 65), some (.int i)], [])) (w1 := w18) (lt_f rfl (Nat.le_of_ble_eq_true rfl)) rfl ?_
  refine aw_step (f1 := (1168, [some (.ref (am_B + 1)), some (.ref 0), some (.ref 65), some (.int i)], [(.ref 65)])) (w1 := w18) (lt_f rfl (Nat.le_of_ble_eq_true rfl)) rfl ?_
  refine aw_step (f1 := (1169, [some (.ref (am_B + 1)), some (.ref 0), some (.ref 65), some (.int i)], [(.ref (am_B + 1)), (.ref 65)])) (w1 := w18) (lt_f rfl (Nat.le_of_ble_eq_true rfl)) rfl ?_
  refine aw_step (f1 := (1170, [some (.ref (am_B + 1)), some (.ref 0), some (.ref 65), some (.int i)], [(.int i), (.ref (am_B + 1)), (.ref 65)])) (w1 := w18) (lt_f rfl (Nat.le_of_ble_eq_true rfl)) rfl ?_
  refine x_i (pc1 := 1171) (ls1 := [some (.ref (am_B + 1)), some (.ref 0), some (.ref 65), some (.int i)]) (st1 := [(.int i), (.ref (am_B + 1)), (.ref 65)]) (lt_f rfl (Nat.le_of_ble_eq_true rfl)) rfl fun x19 e20 => ?_
  have e20t : x19.toInt = 1 := by rw [e20]; rfl
  refine x_i (pc1 := 1172) (ls1 := [some (.ref (am_B + 1)), some (.ref 0), some (.ref 65), some (.int i)]) (st1 := [(.ref (am_B + 1)), (.ref 65)]) (lt_f rfl (Nat.le_of_ble_eq_true rfl)) rfl fun x21 e22 => ?_
  have e22 : x21 = i + x19 := e22
  have e22t : x21.toInt = i.toInt + x19.toInt := by rw [e22]; exact n_add (by omega) (by omega)
  refine x_ia 1173 (lt_f rfl (Nat.le_of_ble_eq_true rfl)) rfl (by omega) (by omega) ?_
  rw [show x21.toInt = i.toInt + 1 by omega]
  show aw (some X) _ 193 _ (1173, [some (.ref (am_B + 1)), some (.ref 0), some (.ref 65), some (.int i)], [(.int (sx X (i.toInt + 1))), (.ref 65)]) w18
  refine aw_step (f1 := (1174, [some (.ref (am_B + 1)), some (.ref 0), some (.ref 65), some (.int i)], [(.ref (am_B + 1)), (.int (sx X (i.toInt + 1))), (.ref 65)])) (w1 := w18) (lt_f rfl (Nat.le_of_ble_eq_true rfl)) rfl ?_
  refine aw_step (f1 := (1175, [some (.ref (am_B + 1)), some (.ref 0), some (.ref 65), some (.int i)], [(.int i), (.ref (am_B + 1)), (.int (sx X (i.toInt + 1))), (.ref 65)])) (w1 := w18) (lt_f rfl (Nat.le_of_ble_eq_true rfl)) rfl ?_
  refine x_i (pc1 := 1176) (ls1 := [some (.ref (am_B + 1)), some (.ref 0), some (.ref 65), some (.int i)]) (st1 := [(.int i), (.ref (am_B + 1)), (.int (sx X (i.toInt + 1))), (.ref 65)]) (lt_f rfl (Nat.le_of_ble_eq_true rfl)) rfl fun x23 e24 => ?_
  have e24t : x23.toInt = 2 := by rw [e24]; rfl
  refine x_i (pc1 := 1177) (ls1 := [some (.ref (am_B + 1)), some (.ref 0), some (.ref 65), some (.int i)]) (st1 := [(.ref (am_B + 1)), (.int (sx X (i.toInt + 1))), (.ref 65)]) (lt_f rfl (Nat.le_of_ble_eq_true rfl)) rfl fun x25 e26 => ?_
  have e26 : x25 = i + x23 := e26
  have e26t : x25.toInt = i.toInt + x23.toInt := by rw [e26]; exact n_add (by omega) (by omega)
  refine x_ia 1178 (lt_f rfl (Nat.le_of_ble_eq_true rfl)) rfl (by omega) (by omega) ?_
  rw [show x25.toInt = i.toInt + 2 by omega]
  show aw (some X) _ 193 _ (1178, [some (.ref (am_B + 1)), some (.ref 0), some (.ref 65), some (.int i)], [(.int (sx X (i.toInt + 2))), (.int (sx X (i.toInt + 1))), (.ref 65)]) w18
  refine aw_step (f1 := (1179, [some (.ref (am_B + 1)), some (.ref 0), some (.ref 65), some (.int i)], [(.ref (am_B + 1)), (.int (sx X (i.toInt + 2))), (.int (sx X (i.toInt + 1))), (.ref 65)])) (w1 := w18) (lt_f rfl (Nat.le_of_ble_eq_true rfl)) rfl ?_
  refine aw_step (f1 := (1180, [some (.ref (am_B + 1)), some (.ref 0), some (.ref 65), some (.int i)], [(.int i), (.ref (am_B + 1)), (.int (sx X (i.toInt + 2))), (.int (sx X (i.toInt + 1))), (.ref 65)])) (w1 := w18) (lt_f rfl (Nat.le_of_ble_eq_true rfl)) rfl ?_
  refine x_i (pc1 := 1181) (ls1 := [some (.ref (am_B + 1)), some (.ref 0), some (.ref 65), some (.int i)]) (st1 := [(.int i), (.ref (am_B + 1)), (.int (sx X (i.toInt + 2))), (.int (sx X (i.toInt + 1))), (.ref 65)]) (lt_f rfl (Nat.le_of_ble_eq_true rfl)) rfl fun x27 e28 => ?_
  have e28t : x27.toInt = 3 := by rw [e28]; rfl
  refine x_i (pc1 := 1182) (ls1 := [some (.ref (am_B + 1)), some (.ref 0), some (.ref 65), some (.int i)]) (st1 := [(.ref (am_B + 1)), (.int (sx X (i.toInt + 2))), (.int (sx X (i.toInt + 1))), (.ref 65)]) (lt_f rfl (Nat.le_of_ble_eq_true rfl)) rfl fun x29 e30 => ?_
  have e30 : x29 = i + x27 := e30
  have e30t : x29.toInt = i.toInt + x27.toInt := by rw [e30]; exact n_add (by omega) (by omega)
  refine x_ia 1183 (lt_f rfl (Nat.le_of_ble_eq_true rfl)) rfl (by omega) (by omega) ?_
  rw [show x29.toInt = i.toInt + 3 by omega]
  show aw (some X) _ 193 _ (1183, [some (.ref (am_B + 1)), some (.ref 0), some (.ref 65), some (.int i)], [(.int (sx X (i.toInt + 3))), (.int (sx X (i.toInt + 2))), (.int (sx X (i.toInt + 1))), (.ref 65)]) w18
  refine aw_step (f1 := (1184, [some (.ref (am_B + 1)), some (.ref 0), some (.ref 65), some (.int i)], [(.ref (am_B + 1)), (.int (sx X (i.toInt + 3))), (.int (sx X (i.toInt + 2))), (.int (sx X (i.toInt + 1))), (.ref 65)])) (w1 := w18) (lt_f rfl (Nat.le_of_ble_eq_true rfl)) rfl ?_
  refine aw_step (f1 := (1185, [some (.ref (am_B + 1)), some (.ref 0), some (.ref 65), some (.int i)], [(.int i), (.ref (am_B + 1)), (.int (sx X (i.toInt + 3))), (.int (sx X (i.toInt + 2))), (.int (sx X (i.toInt + 1))), (.ref 65)])) (w1 := w18) (lt_f rfl (Nat.le_of_ble_eq_true rfl)) rfl ?_
  refine x_i (pc1 := 1186) (ls1 := [some (.ref (am_B + 1)), some (.ref 0), some (.ref 65), some (.int i)]) (st1 := [(.int i), (.ref (am_B + 1)), (.int (sx X (i.toInt + 3))), (.int (sx X (i.toInt + 2))), (.int (sx X (i.toInt + 1))), (.ref 65)]) (lt_f rfl (Nat.le_of_ble_eq_true rfl)) rfl fun x31 e32 => ?_
  have e32t : x31.toInt = 4 := by rw [e32]; rfl
  refine x_i (pc1 := 1187) (ls1 := [some (.ref (am_B + 1)), some (.ref 0), some (.ref 65), some (.int i)]) (st1 := [(.ref (am_B + 1)), (.int (sx X (i.toInt + 3))), (.int (sx X (i.toInt + 2))), (.int (sx X (i.toInt + 1))), (.ref 65)]) (lt_f rfl (Nat.le_of_ble_eq_true rfl)) rfl fun x33 e34 => ?_
  have e34 : x33 = i + x31 := e34
  have e34t : x33.toInt = i.toInt + x31.toInt := by rw [e34]; exact n_add (by omega) (by omega)
  refine x_ia 1188 (lt_f rfl (Nat.le_of_ble_eq_true rfl)) rfl (by omega) (by omega) ?_
  rw [show x33.toInt = i.toInt + 4 by omega]
  show aw (some X) _ 193 _ (1188, [some (.ref (am_B + 1)), some (.ref 0), some (.ref 65), some (.int i)], [(.int (sx X (i.toInt + 4))), (.int (sx X (i.toInt + 3))), (.int (sx X (i.toInt + 2))), (.int (sx X (i.toInt + 1))), (.ref 65)]) w18
  refine x_cv (z := 168) (p := 65) (as := [(.int (sx X (i.toInt + 1))), (.int (sx X (i.toInt + 2))), (.int (sx X (i.toInt + 3))), (.int (sx X (i.toInt + 4)))]) (st1 := []) (Hw18.inv) 1191 (lt_f rfl (Nat.le_of_ble_eq_true rfl)) rfl rfl rfl rfl rfl rfl rfl (Nat.le_of_ble_eq_true rfl) (Nat.le_of_ble_eq_true rfl) ((tm_ways (sx X (i.toInt + 1)) (sx X (i.toInt + 2)) (sx X (i.toInt + 3)) (sx X (i.toInt + 4)) Hw18).deep (by omega)) ?_
  rintro _ w36 ⟨⟨Hw36, w36l⟩, y35, rfl⟩
  refine ⟨w36l, ?_⟩
  show aw (some X) _ 193 _ (1191, [some (.ref (am_B + 1)), some (.ref 0), some (.ref 65), some (.int i)], [(.long y35)]) w36
  refine aw_step (f1 := (1192, [some (.ref (am_B + 1)), some (.ref 0), some (.ref 65), some (.int i)], [])) (w1 := w36) (lt_f rfl (Nat.le_of_ble_eq_true rfl)) rfl ?_
  refine aw_step (f1 := (1476, [some (.ref (am_B + 1)), some (.ref 0), some (.ref 65), some (.int i)], [])) (w1 := w36) (lt_f rfl (Nat.le_of_ble_eq_true rfl)) rfl ?_
  exact K w36 Hw36
set_option maxRecDepth 100000 in
theorem lk_29 {X : List Int32} {Q : Option Value → am_W → Prop} {w : am_W} {i : Int32} (h0 : 0 ≤ i.toInt) (h6 : i.toInt + 6 ≤ X.length) (hX : X.length ≤ 384) (H : TI w) (K : ∀ w1, TI w1 → aw (some X) 60 193 Q (1476, [some (.ref (am_B + 1)), some (.ref 0), some (.ref 65), some (.int i)], []) w1) : aw (some X) 60 193 Q (1195, [some (.ref (am_B + 1)), some (.ref 0), some (.ref 65), some (.int i)], []) w := by
  refine aw_step (f1 := (1196, [some (.ref (am_B + 1)), some (.ref 0), some (.ref 65), some (.int i)], [(.ref 0)])) (w1 := w) (lt_f rfl (Nat.le_of_ble_eq_true rfl)) rfl ?_
  refine aw_step (f1 := (1197, [some (.ref (am_B + 1)), some (.ref 0), some (.ref 65), some (.int i)], [(.ref (am_B + 1)), (.ref 0)])) (w1 := w) (lt_f rfl (Nat.le_of_ble_eq_true rfl)) rfl ?_
  refine aw_step (f1 := (1198, [some (.ref (am_B + 1)), some (.ref 0), some (.ref 65), some (.int i)], [(.int i), (.ref (am_B + 1)), (.ref 0)])) (w1 := w) (lt_f rfl (Nat.le_of_ble_eq_true rfl)) rfl ?_
  refine x_i (pc1 := 1199) (ls1 := [some (.ref (am_B + 1)), some (.ref 0), some (.ref 65), some (.int i)]) (st1 := [(.int i), (.ref (am_B + 1)), (.ref 0)]) (lt_f rfl (Nat.le_of_ble_eq_true rfl)) rfl fun x1 e2 => ?_
  have e2t : x1.toInt = 1 := by rw [e2]; rfl
  refine x_i (pc1 := 1200) (ls1 := [some (.ref (am_B + 1)), some (.ref 0), some (.ref 65), some (.int i)]) (st1 := [(.ref (am_B + 1)), (.ref 0)]) (lt_f rfl (Nat.le_of_ble_eq_true rfl)) rfl fun x3 e4 => ?_
  have e4 : x3 = i + x1 := e4
  have e4t : x3.toInt = i.toInt + x1.toInt := by rw [e4]; exact n_add (by omega) (by omega)
  refine x_ia 1201 (lt_f rfl (Nat.le_of_ble_eq_true rfl)) rfl (by omega) (by omega) ?_
  rw [show x3.toInt = i.toInt + 1 by omega]
  show aw (some X) _ 193 _ (1201, [some (.ref (am_B + 1)), some (.ref 0), some (.ref 65), some (.int i)], [(.int (sx X (i.toInt + 1))), (.ref 0)]) w
  refine aw_step (f1 := (1202, [some (.ref (am_B + 1)), some (.ref 0), some (.ref 65), some (.int i)], [(.ref (am_B + 1)), (.int (sx X (i.toInt + 1))), (.ref 0)])) (w1 := w) (lt_f rfl (Nat.le_of_ble_eq_true rfl)) rfl ?_
  refine aw_step (f1 := (1203, [some (.ref (am_B + 1)), some (.ref 0), some (.ref 65), some (.int i)], [(.int i), (.ref (am_B + 1)), (.int (sx X (i.toInt + 1))), (.ref 0)])) (w1 := w) (lt_f rfl (Nat.le_of_ble_eq_true rfl)) rfl ?_
  refine x_i (pc1 := 1204) (ls1 := [some (.ref (am_B + 1)), some (.ref 0), some (.ref 65), some (.int i)]) (st1 := [(.int i), (.ref (am_B + 1)), (.int (sx X (i.toInt + 1))), (.ref 0)]) (lt_f rfl (Nat.le_of_ble_eq_true rfl)) rfl fun x5 e6 => ?_
  have e6t : x5.toInt = 2 := by rw [e6]; rfl
  refine x_i (pc1 := 1205) (ls1 := [some (.ref (am_B + 1)), some (.ref 0), some (.ref 65), some (.int i)]) (st1 := [(.ref (am_B + 1)), (.int (sx X (i.toInt + 1))), (.ref 0)]) (lt_f rfl (Nat.le_of_ble_eq_true rfl)) rfl fun x7 e8 => ?_
  have e8 : x7 = i + x5 := e8
  have e8t : x7.toInt = i.toInt + x5.toInt := by rw [e8]; exact n_add (by omega) (by omega)
  refine x_ia 1206 (lt_f rfl (Nat.le_of_ble_eq_true rfl)) rfl (by omega) (by omega) ?_
  rw [show x7.toInt = i.toInt + 2 by omega]
  show aw (some X) _ 193 _ (1206, [some (.ref (am_B + 1)), some (.ref 0), some (.ref 65), some (.int i)], [(.int (sx X (i.toInt + 2))), (.int (sx X (i.toInt + 1))), (.ref 0)]) w
  refine aw_step (f1 := (1207, [some (.ref (am_B + 1)), some (.ref 0), some (.ref 65), some (.int i)], [(.ref (am_B + 1)), (.int (sx X (i.toInt + 2))), (.int (sx X (i.toInt + 1))), (.ref 0)])) (w1 := w) (lt_f rfl (Nat.le_of_ble_eq_true rfl)) rfl ?_
  refine aw_step (f1 := (1208, [some (.ref (am_B + 1)), some (.ref 0), some (.ref 65), some (.int i)], [(.int i), (.ref (am_B + 1)), (.int (sx X (i.toInt + 2))), (.int (sx X (i.toInt + 1))), (.ref 0)])) (w1 := w) (lt_f rfl (Nat.le_of_ble_eq_true rfl)) rfl ?_
  refine x_i (pc1 := 1209) (ls1 := [some (.ref (am_B + 1)), some (.ref 0), some (.ref 65), some (.int i)]) (st1 := [(.int i), (.ref (am_B + 1)), (.int (sx X (i.toInt + 2))), (.int (sx X (i.toInt + 1))), (.ref 0)]) (lt_f rfl (Nat.le_of_ble_eq_true rfl)) rfl fun x9 e10 => ?_
  have e10t : x9.toInt = 3 := by rw [e10]; rfl
  refine x_i (pc1 := 1210) (ls1 := [some (.ref (am_B + 1)), some (.ref 0), some (.ref 65), some (.int i)]) (st1 := [(.ref (am_B + 1)), (.int (sx X (i.toInt + 2))), (.int (sx X (i.toInt + 1))), (.ref 0)]) (lt_f rfl (Nat.le_of_ble_eq_true rfl)) rfl fun x11 e12 => ?_
  have e12 : x11 = i + x9 := e12
  have e12t : x11.toInt = i.toInt + x9.toInt := by rw [e12]; exact n_add (by omega) (by omega)
  refine x_ia 1211 (lt_f rfl (Nat.le_of_ble_eq_true rfl)) rfl (by omega) (by omega) ?_
  rw [show x11.toInt = i.toInt + 3 by omega]
  show aw (some X) _ 193 _ (1211, [some (.ref (am_B + 1)), some (.ref 0), some (.ref 65), some (.int i)], [(.int (sx X (i.toInt + 3))), (.int (sx X (i.toInt + 2))), (.int (sx X (i.toInt + 1))), (.ref 0)]) w
  refine aw_step (f1 := (1212, [some (.ref (am_B + 1)), some (.ref 0), some (.ref 65), some (.int i)], [(.ref (am_B + 1)), (.int (sx X (i.toInt + 3))), (.int (sx X (i.toInt + 2))), (.int (sx X (i.toInt + 1))), (.ref 0)])) (w1 := w) (lt_f rfl (Nat.le_of_ble_eq_true rfl)) rfl ?_
  refine aw_step (f1 := (1213, [some (.ref (am_B + 1)), some (.ref 0), some (.ref 65), some (.int i)], [(.int i), (.ref (am_B + 1)), (.int (sx X (i.toInt + 3))), (.int (sx X (i.toInt + 2))), (.int (sx X (i.toInt + 1))), (.ref 0)])) (w1 := w) (lt_f rfl (Nat.le_of_ble_eq_true rfl)) rfl ?_
  refine x_i (pc1 := 1214) (ls1 := [some (.ref (am_B + 1)), some (.ref 0), some (.ref 65), some (.int i)]) (st1 := [(.int i), (.ref (am_B + 1)), (.int (sx X (i.toInt + 3))), (.int (sx X (i.toInt + 2))), (.int (sx X (i.toInt + 1))), (.ref 0)]) (lt_f rfl (Nat.le_of_ble_eq_true rfl)) rfl fun x13 e14 => ?_
  have e14t : x13.toInt = 4 := by rw [e14]; rfl
  refine x_i (pc1 := 1215) (ls1 := [some (.ref (am_B + 1)), some (.ref 0), some (.ref 65), some (.int i)]) (st1 := [(.ref (am_B + 1)), (.int (sx X (i.toInt + 3))), (.int (sx X (i.toInt + 2))), (.int (sx X (i.toInt + 1))), (.ref 0)]) (lt_f rfl (Nat.le_of_ble_eq_true rfl)) rfl fun x15 e16 => ?_
  have e16 : x15 = i + x13 := e16
  have e16t : x15.toInt = i.toInt + x13.toInt := by rw [e16]; exact n_add (by omega) (by omega)
  refine x_ia 1216 (lt_f rfl (Nat.le_of_ble_eq_true rfl)) rfl (by omega) (by omega) ?_
  rw [show x15.toInt = i.toInt + 4 by omega]
  show aw (some X) _ 193 _ (1216, [some (.ref (am_B + 1)), some (.ref 0), some (.ref 65), some (.int i)], [(.int (sx X (i.toInt + 4))), (.int (sx X (i.toInt + 3))), (.int (sx X (i.toInt + 2))), (.int (sx X (i.toInt + 1))), (.ref 0)]) w
  refine aw_step (f1 := (1217, [some (.ref (am_B + 1)), some (.ref 0), some (.ref 65), some (.int i)], [(.ref (am_B + 1)), (.int (sx X (i.toInt + 4))), (.int (sx X (i.toInt + 3))), (.int (sx X (i.toInt + 2))), (.int (sx X (i.toInt + 1))), (.ref 0)])) (w1 := w) (lt_f rfl (Nat.le_of_ble_eq_true rfl)) rfl ?_
  refine aw_step (f1 := (1218, [some (.ref (am_B + 1)), some (.ref 0), some (.ref 65), some (.int i)], [(.int i), (.ref (am_B + 1)), (.int (sx X (i.toInt + 4))), (.int (sx X (i.toInt + 3))), (.int (sx X (i.toInt + 2))), (.int (sx X (i.toInt + 1))), (.ref 0)])) (w1 := w) (lt_f rfl (Nat.le_of_ble_eq_true rfl)) rfl ?_
  refine x_i (pc1 := 1219) (ls1 := [some (.ref (am_B + 1)), some (.ref 0), some (.ref 65), some (.int i)]) (st1 := [(.int i), (.ref (am_B + 1)), (.int (sx X (i.toInt + 4))), (.int (sx X (i.toInt + 3))), (.int (sx X (i.toInt + 2))), (.int (sx X (i.toInt + 1))), (.ref 0)]) (lt_f rfl (Nat.le_of_ble_eq_true rfl)) rfl fun x17 e18 => ?_
  have e18t : x17.toInt = 5 := by rw [e18]; rfl
  refine x_i (pc1 := 1220) (ls1 := [some (.ref (am_B + 1)), some (.ref 0), some (.ref 65), some (.int i)]) (st1 := [(.ref (am_B + 1)), (.int (sx X (i.toInt + 4))), (.int (sx X (i.toInt + 3))), (.int (sx X (i.toInt + 2))), (.int (sx X (i.toInt + 1))), (.ref 0)]) (lt_f rfl (Nat.le_of_ble_eq_true rfl)) rfl fun x19 e20 => ?_
  have e20 : x19 = i + x17 := e20
  have e20t : x19.toInt = i.toInt + x17.toInt := by rw [e20]; exact n_add (by omega) (by omega)
  refine x_ia 1221 (lt_f rfl (Nat.le_of_ble_eq_true rfl)) rfl (by omega) (by omega) ?_
  rw [show x19.toInt = i.toInt + 5 by omega]
  show aw (some X) _ 193 _ (1221, [some (.ref (am_B + 1)), some (.ref 0), some (.ref 65), some (.int i)], [(.int (sx X (i.toInt + 5))), (.int (sx X (i.toInt + 4))), (.int (sx X (i.toInt + 3))), (.int (sx X (i.toInt + 2))), (.int (sx X (i.toInt + 1))), (.ref 0)]) w
  refine x_cv (z := 89) (p := 0) (as := [(.int (sx X (i.toInt + 1))), (.int (sx X (i.toInt + 2))), (.int (sx X (i.toInt + 3))), (.int (sx X (i.toInt + 4))), (.int (sx X (i.toInt + 5)))]) (st1 := []) (H.inv) 1224 (lt_f rfl (Nat.le_of_ble_eq_true rfl)) rfl rfl rfl rfl rfl rfl rfl (Nat.le_of_ble_eq_true rfl) (Nat.le_of_ble_eq_true rfl) ((tc_chance (sx X (i.toInt + 1)) (sx X (i.toInt + 2)) (sx X (i.toInt + 3)) (sx X (i.toInt + 4)) (sx X (i.toInt + 5)) H).deep (by omega)) ?_
  rintro _ w22 ⟨⟨Hw22, w22l⟩, y21, rfl⟩
  refine ⟨w22l, ?_⟩
  show aw (some X) _ 193 _ (1224, [some (.ref (am_B + 1)), some (.ref 0), some (.ref 65), some (.int i)], [(.long y21)]) w22
  refine aw_step (f1 := (1225, [some (.ref (am_B + 1)), some (.ref 0), some (.ref 65), some (.int i)], [])) (w1 := w22) (lt_f rfl (Nat.le_of_ble_eq_true rfl)) rfl ?_
  refine aw_step (f1 := (1226, [some (.ref (am_B + 1)), some (.ref 0), some (.ref 65), some (.int i)], [(.ref 65)])) (w1 := w22) (lt_f rfl (Nat.le_of_ble_eq_true rfl)) rfl ?_
  refine aw_step (f1 := (1227, [some (.ref (am_B + 1)), some (.ref 0), some (.ref 65), some (.int i)], [(.ref (am_B + 1)), (.ref 65)])) (w1 := w22) (lt_f rfl (Nat.le_of_ble_eq_true rfl)) rfl ?_
  refine aw_step (f1 := (1228, [some (.ref (am_B + 1)), some (.ref 0), some (.ref 65), some (.int i)], [(.int i), (.ref (am_B + 1)), (.ref 65)])) (w1 := w22) (lt_f rfl (Nat.le_of_ble_eq_true rfl)) rfl ?_
  refine x_i (pc1 := 1229) (ls1 := [some (.ref (am_B + 1)), some (.ref 0), some (.ref 65), some (.int i)]) (st1 := [(.int i), (.ref (am_B + 1)), (.ref 65)]) (lt_f rfl (Nat.le_of_ble_eq_true rfl)) rfl fun x23 e24 => ?_
  have e24t : x23.toInt = 1 := by rw [e24]; rfl
  refine x_i (pc1 := 1230) (ls1 := [some (.ref (am_B + 1)), some (.ref 0), some (.ref 65), some (.int i)]) (st1 := [(.ref (am_B + 1)), (.ref 65)]) (lt_f rfl (Nat.le_of_ble_eq_true rfl)) rfl fun x25 e26 => ?_
  have e26 : x25 = i + x23 := e26
  have e26t : x25.toInt = i.toInt + x23.toInt := by rw [e26]; exact n_add (by omega) (by omega)
  refine x_ia 1231 (lt_f rfl (Nat.le_of_ble_eq_true rfl)) rfl (by omega) (by omega) ?_
  rw [show x25.toInt = i.toInt + 1 by omega]
  show aw (some X) _ 193 _ (1231, [some (.ref (am_B + 1)), some (.ref 0), some (.ref 65), some (.int i)], [(.int (sx X (i.toInt + 1))), (.ref 65)]) w22
  refine aw_step (f1 := (1232, [some (.ref (am_B + 1)), some (.ref 0), some (.ref 65), some (.int i)], [(.ref (am_B + 1)), (.int (sx X (i.toInt + 1))), (.ref 65)])) (w1 := w22) (lt_f rfl (Nat.le_of_ble_eq_true rfl)) rfl ?_
  refine aw_step (f1 := (1233, [some (.ref (am_B + 1)), some (.ref 0), some (.ref 65), some (.int i)], [(.int i), (.ref (am_B + 1)), (.int (sx X (i.toInt + 1))), (.ref 65)])) (w1 := w22) (lt_f rfl (Nat.le_of_ble_eq_true rfl)) rfl ?_
  refine x_i (pc1 := 1234) (ls1 := [some (.ref (am_B + 1)), some (.ref 0), some (.ref 65), some (.int i)]) (st1 := [(.int i), (.ref (am_B + 1)), (.int (sx X (i.toInt + 1))), (.ref 65)]) (lt_f rfl (Nat.le_of_ble_eq_true rfl)) rfl fun x27 e28 => ?_
  have e28t : x27.toInt = 2 := by rw [e28]; rfl
  refine x_i (pc1 := 1235) (ls1 := [some (.ref (am_B + 1)), some (.ref 0), some (.ref 65), some (.int i)]) (st1 := [(.ref (am_B + 1)), (.int (sx X (i.toInt + 1))), (.ref 65)]) (lt_f rfl (Nat.le_of_ble_eq_true rfl)) rfl fun x29 e30 => ?_
  have e30 : x29 = i + x27 := e30
  have e30t : x29.toInt = i.toInt + x27.toInt := by rw [e30]; exact n_add (by omega) (by omega)
  refine x_ia 1236 (lt_f rfl (Nat.le_of_ble_eq_true rfl)) rfl (by omega) (by omega) ?_
  rw [show x29.toInt = i.toInt + 2 by omega]
  show aw (some X) _ 193 _ (1236, [some (.ref (am_B + 1)), some (.ref 0), some (.ref 65), some (.int i)], [(.int (sx X (i.toInt + 2))), (.int (sx X (i.toInt + 1))), (.ref 65)]) w22
  refine aw_step (f1 := (1237, [some (.ref (am_B + 1)), some (.ref 0), some (.ref 65), some (.int i)], [(.ref (am_B + 1)), (.int (sx X (i.toInt + 2))), (.int (sx X (i.toInt + 1))), (.ref 65)])) (w1 := w22) (lt_f rfl (Nat.le_of_ble_eq_true rfl)) rfl ?_
  refine aw_step (f1 := (1238, [some (.ref (am_B + 1)), some (.ref 0), some (.ref 65), some (.int i)], [(.int i), (.ref (am_B + 1)), (.int (sx X (i.toInt + 2))), (.int (sx X (i.toInt + 1))), (.ref 65)])) (w1 := w22) (lt_f rfl (Nat.le_of_ble_eq_true rfl)) rfl ?_
  refine x_i (pc1 := 1239) (ls1 := [some (.ref (am_B + 1)), some (.ref 0), some (.ref 65), some (.int i)]) (st1 := [(.int i), (.ref (am_B + 1)), (.int (sx X (i.toInt + 2))), (.int (sx X (i.toInt + 1))), (.ref 65)]) (lt_f rfl (Nat.le_of_ble_eq_true rfl)) rfl fun x31 e32 => ?_
  have e32t : x31.toInt = 3 := by rw [e32]; rfl
  refine x_i (pc1 := 1240) (ls1 := [some (.ref (am_B + 1)), some (.ref 0), some (.ref 65), some (.int i)]) (st1 := [(.ref (am_B + 1)), (.int (sx X (i.toInt + 2))), (.int (sx X (i.toInt + 1))), (.ref 65)]) (lt_f rfl (Nat.le_of_ble_eq_true rfl)) rfl fun x33 e34 => ?_
  have e34 : x33 = i + x31 := e34
  have e34t : x33.toInt = i.toInt + x31.toInt := by rw [e34]; exact n_add (by omega) (by omega)
  refine x_ia 1241 (lt_f rfl (Nat.le_of_ble_eq_true rfl)) rfl (by omega) (by omega) ?_
  rw [show x33.toInt = i.toInt + 3 by omega]
  show aw (some X) _ 193 _ (1241, [some (.ref (am_B + 1)), some (.ref 0), some (.ref 65), some (.int i)], [(.int (sx X (i.toInt + 3))), (.int (sx X (i.toInt + 2))), (.int (sx X (i.toInt + 1))), (.ref 65)]) w22
  refine aw_step (f1 := (1242, [some (.ref (am_B + 1)), some (.ref 0), some (.ref 65), some (.int i)], [(.ref (am_B + 1)), (.int (sx X (i.toInt + 3))), (.int (sx X (i.toInt + 2))), (.int (sx X (i.toInt + 1))), (.ref 65)])) (w1 := w22) (lt_f rfl (Nat.le_of_ble_eq_true rfl)) rfl ?_
  refine aw_step (f1 := (1243, [some (.ref (am_B + 1)), some (.ref 0), some (.ref 65), some (.int i)], [(.int i), (.ref (am_B + 1)), (.int (sx X (i.toInt + 3))), (.int (sx X (i.toInt + 2))), (.int (sx X (i.toInt + 1))), (.ref 65)])) (w1 := w22) (lt_f rfl (Nat.le_of_ble_eq_true rfl)) rfl ?_
  refine x_i (pc1 := 1244) (ls1 := [some (.ref (am_B + 1)), some (.ref 0), some (.ref 65), some (.int i)]) (st1 := [(.int i), (.ref (am_B + 1)), (.int (sx X (i.toInt + 3))), (.int (sx X (i.toInt + 2))), (.int (sx X (i.toInt + 1))), (.ref 65)]) (lt_f rfl (Nat.le_of_ble_eq_true rfl)) rfl fun x35 e36 => ?_
  have e36t : x35.toInt = 4 := by rw [e36]; rfl
  refine x_i (pc1 := 1245) (ls1 := [some (.ref (am_B + 1)), some (.ref 0), some (.ref 65), some (.int i)]) (st1 := [(.ref (am_B + 1)), (.int (sx X (i.toInt + 3))), (.int (sx X (i.toInt + 2))), (.int (sx X (i.toInt + 1))), (.ref 65)]) (lt_f rfl (Nat.le_of_ble_eq_true rfl)) rfl fun x37 e38 => ?_
  have e38 : x37 = i + x35 := e38
  have e38t : x37.toInt = i.toInt + x35.toInt := by rw [e38]; exact n_add (by omega) (by omega)
  refine x_ia 1246 (lt_f rfl (Nat.le_of_ble_eq_true rfl)) rfl (by omega) (by omega) ?_
  rw [show x37.toInt = i.toInt + 4 by omega]
  show aw (some X) _ 193 _ (1246, [some (.ref (am_B + 1)), some (.ref 0), some (.ref 65), some (.int i)], [(.int (sx X (i.toInt + 4))), (.int (sx X (i.toInt + 3))), (.int (sx X (i.toInt + 2))), (.int (sx X (i.toInt + 1))), (.ref 65)]) w22
  refine aw_step (f1 := (1247, [some (.ref (am_B + 1)), some (.ref 0), some (.ref 65), some (.int i)], [(.ref (am_B + 1)), (.int (sx X (i.toInt + 4))), (.int (sx X (i.toInt + 3))), (.int (sx X (i.toInt + 2))), (.int (sx X (i.toInt + 1))), (.ref 65)])) (w1 := w22) (lt_f rfl (Nat.le_of_ble_eq_true rfl)) rfl ?_
  refine aw_step (f1 := (1248, [some (.ref (am_B + 1)), some (.ref 0), some (.ref 65), some (.int i)], [(.int i), (.ref (am_B + 1)), (.int (sx X (i.toInt + 4))), (.int (sx X (i.toInt + 3))), (.int (sx X (i.toInt + 2))), (.int (sx X (i.toInt + 1))), (.ref 65)])) (w1 := w22) (lt_f rfl (Nat.le_of_ble_eq_true rfl)) rfl ?_
  refine x_i (pc1 := 1249) (ls1 := [some (.ref (am_B + 1)), some (.ref 0), some (.ref 65), some (.int i)]) (st1 := [(.int i), (.ref (am_B + 1)), (.int (sx X (i.toInt + 4))), (.int (sx X (i.toInt + 3))), (.int (sx X (i.toInt + 2))), (.int (sx X (i.toInt + 1))), (.ref 65)]) (lt_f rfl (Nat.le_of_ble_eq_true rfl)) rfl fun x39 e40 => ?_
  have e40t : x39.toInt = 5 := by rw [e40]; rfl
  refine x_i (pc1 := 1250) (ls1 := [some (.ref (am_B + 1)), some (.ref 0), some (.ref 65), some (.int i)]) (st1 := [(.ref (am_B + 1)), (.int (sx X (i.toInt + 4))), (.int (sx X (i.toInt + 3))), (.int (sx X (i.toInt + 2))), (.int (sx X (i.toInt + 1))), (.ref 65)]) (lt_f rfl (Nat.le_of_ble_eq_true rfl)) rfl fun x41 e42 => ?_
  have e42 : x41 = i + x39 := e42
  have e42t : x41.toInt = i.toInt + x39.toInt := by rw [e42]; exact n_add (by omega) (by omega)
  refine x_ia 1251 (lt_f rfl (Nat.le_of_ble_eq_true rfl)) rfl (by omega) (by omega) ?_
  rw [show x41.toInt = i.toInt + 5 by omega]
  show aw (some X) _ 193 _ (1251, [some (.ref (am_B + 1)), some (.ref 0), some (.ref 65), some (.int i)], [(.int (sx X (i.toInt + 5))), (.int (sx X (i.toInt + 4))), (.int (sx X (i.toInt + 3))), (.int (sx X (i.toInt + 2))), (.int (sx X (i.toInt + 1))), (.ref 65)]) w22
  refine x_cv (z := 171) (p := 65) (as := [(.int (sx X (i.toInt + 1))), (.int (sx X (i.toInt + 2))), (.int (sx X (i.toInt + 3))), (.int (sx X (i.toInt + 4))), (.int (sx X (i.toInt + 5)))]) (st1 := []) (Hw22.inv) 1254 (lt_f rfl (Nat.le_of_ble_eq_true rfl)) rfl rfl rfl rfl rfl rfl rfl (Nat.le_of_ble_eq_true rfl) (Nat.le_of_ble_eq_true rfl) ((tm_chance (sx X (i.toInt + 1)) (sx X (i.toInt + 2)) (sx X (i.toInt + 3)) (sx X (i.toInt + 4)) (sx X (i.toInt + 5)) Hw22).deep (by omega)) ?_
  rintro _ w44 ⟨⟨Hw44, w44l⟩, y43, rfl⟩
  refine ⟨w44l, ?_⟩
  show aw (some X) _ 193 _ (1254, [some (.ref (am_B + 1)), some (.ref 0), some (.ref 65), some (.int i)], [(.long y43)]) w44
  refine aw_step (f1 := (1255, [some (.ref (am_B + 1)), some (.ref 0), some (.ref 65), some (.int i)], [])) (w1 := w44) (lt_f rfl (Nat.le_of_ble_eq_true rfl)) rfl ?_
  refine aw_step (f1 := (1476, [some (.ref (am_B + 1)), some (.ref 0), some (.ref 65), some (.int i)], [])) (w1 := w44) (lt_f rfl (Nat.le_of_ble_eq_true rfl)) rfl ?_
  exact K w44 Hw44
set_option maxRecDepth 100000 in
theorem lk_30 {X : List Int32} {Q : Option Value → am_W → Prop} {w : am_W} {i : Int32} (h0 : 0 ≤ i.toInt) (h6 : i.toInt + 6 ≤ X.length) (hX : X.length ≤ 384) (H : TI w) (K : ∀ w1, TI w1 → aw (some X) 60 193 Q (1476, [some (.ref (am_B + 1)), some (.ref 0), some (.ref 65), some (.int i)], []) w1) : aw (some X) 60 193 Q (1258, [some (.ref (am_B + 1)), some (.ref 0), some (.ref 65), some (.int i)], []) w := by
  refine aw_step (f1 := (1259, [some (.ref (am_B + 1)), some (.ref 0), some (.ref 65), some (.int i)], [(.ref 0)])) (w1 := w) (lt_f rfl (Nat.le_of_ble_eq_true rfl)) rfl ?_
  refine aw_step (f1 := (1260, [some (.ref (am_B + 1)), some (.ref 0), some (.ref 65), some (.int i)], [(.ref (am_B + 1)), (.ref 0)])) (w1 := w) (lt_f rfl (Nat.le_of_ble_eq_true rfl)) rfl ?_
  refine aw_step (f1 := (1261, [some (.ref (am_B + 1)), some (.ref 0), some (.ref 65), some (.int i)], [(.int i), (.ref (am_B + 1)), (.ref 0)])) (w1 := w) (lt_f rfl (Nat.le_of_ble_eq_true rfl)) rfl ?_
  refine x_i (pc1 := 1262) (ls1 := [some (.ref (am_B + 1)), some (.ref 0), some (.ref 65), some (.int i)]) (st1 := [(.int i), (.ref (am_B + 1)), (.ref 0)]) (lt_f rfl (Nat.le_of_ble_eq_true rfl)) rfl fun x1 e2 => ?_
  have e2t : x1.toInt = 1 := by rw [e2]; rfl
  refine x_i (pc1 := 1263) (ls1 := [some (.ref (am_B + 1)), some (.ref 0), some (.ref 65), some (.int i)]) (st1 := [(.ref (am_B + 1)), (.ref 0)]) (lt_f rfl (Nat.le_of_ble_eq_true rfl)) rfl fun x3 e4 => ?_
  have e4 : x3 = i + x1 := e4
  have e4t : x3.toInt = i.toInt + x1.toInt := by rw [e4]; exact n_add (by omega) (by omega)
  refine x_ia 1264 (lt_f rfl (Nat.le_of_ble_eq_true rfl)) rfl (by omega) (by omega) ?_
  rw [show x3.toInt = i.toInt + 1 by omega]
  show aw (some X) _ 193 _ (1264, [some (.ref (am_B + 1)), some (.ref 0), some (.ref 65), some (.int i)], [(.int (sx X (i.toInt + 1))), (.ref 0)]) w
  refine aw_step (f1 := (1265, [some (.ref (am_B + 1)), some (.ref 0), some (.ref 65), some (.int i)], [(.ref (am_B + 1)), (.int (sx X (i.toInt + 1))), (.ref 0)])) (w1 := w) (lt_f rfl (Nat.le_of_ble_eq_true rfl)) rfl ?_
  refine aw_step (f1 := (1266, [some (.ref (am_B + 1)), some (.ref 0), some (.ref 65), some (.int i)], [(.int i), (.ref (am_B + 1)), (.int (sx X (i.toInt + 1))), (.ref 0)])) (w1 := w) (lt_f rfl (Nat.le_of_ble_eq_true rfl)) rfl ?_
  refine x_i (pc1 := 1267) (ls1 := [some (.ref (am_B + 1)), some (.ref 0), some (.ref 65), some (.int i)]) (st1 := [(.int i), (.ref (am_B + 1)), (.int (sx X (i.toInt + 1))), (.ref 0)]) (lt_f rfl (Nat.le_of_ble_eq_true rfl)) rfl fun x5 e6 => ?_
  have e6t : x5.toInt = 2 := by rw [e6]; rfl
  refine x_i (pc1 := 1268) (ls1 := [some (.ref (am_B + 1)), some (.ref 0), some (.ref 65), some (.int i)]) (st1 := [(.ref (am_B + 1)), (.int (sx X (i.toInt + 1))), (.ref 0)]) (lt_f rfl (Nat.le_of_ble_eq_true rfl)) rfl fun x7 e8 => ?_
  have e8 : x7 = i + x5 := e8
  have e8t : x7.toInt = i.toInt + x5.toInt := by rw [e8]; exact n_add (by omega) (by omega)
  refine x_ia 1269 (lt_f rfl (Nat.le_of_ble_eq_true rfl)) rfl (by omega) (by omega) ?_
  rw [show x7.toInt = i.toInt + 2 by omega]
  show aw (some X) _ 193 _ (1269, [some (.ref (am_B + 1)), some (.ref 0), some (.ref 65), some (.int i)], [(.int (sx X (i.toInt + 2))), (.int (sx X (i.toInt + 1))), (.ref 0)]) w
  refine aw_step (f1 := (1270, [some (.ref (am_B + 1)), some (.ref 0), some (.ref 65), some (.int i)], [(.ref (am_B + 1)), (.int (sx X (i.toInt + 2))), (.int (sx X (i.toInt + 1))), (.ref 0)])) (w1 := w) (lt_f rfl (Nat.le_of_ble_eq_true rfl)) rfl ?_
  refine aw_step (f1 := (1271, [some (.ref (am_B + 1)), some (.ref 0), some (.ref 65), some (.int i)], [(.int i), (.ref (am_B + 1)), (.int (sx X (i.toInt + 2))), (.int (sx X (i.toInt + 1))), (.ref 0)])) (w1 := w) (lt_f rfl (Nat.le_of_ble_eq_true rfl)) rfl ?_
  refine x_i (pc1 := 1272) (ls1 := [some (.ref (am_B + 1)), some (.ref 0), some (.ref 65), some (.int i)]) (st1 := [(.int i), (.ref (am_B + 1)), (.int (sx X (i.toInt + 2))), (.int (sx X (i.toInt + 1))), (.ref 0)]) (lt_f rfl (Nat.le_of_ble_eq_true rfl)) rfl fun x9 e10 => ?_
  have e10t : x9.toInt = 3 := by rw [e10]; rfl
  refine x_i (pc1 := 1273) (ls1 := [some (.ref (am_B + 1)), some (.ref 0), some (.ref 65), some (.int i)]) (st1 := [(.ref (am_B + 1)), (.int (sx X (i.toInt + 2))), (.int (sx X (i.toInt + 1))), (.ref 0)]) (lt_f rfl (Nat.le_of_ble_eq_true rfl)) rfl fun x11 e12 => ?_
  have e12 : x11 = i + x9 := e12
  have e12t : x11.toInt = i.toInt + x9.toInt := by rw [e12]; exact n_add (by omega) (by omega)
  refine x_ia 1274 (lt_f rfl (Nat.le_of_ble_eq_true rfl)) rfl (by omega) (by omega) ?_
  rw [show x11.toInt = i.toInt + 3 by omega]
  show aw (some X) _ 193 _ (1274, [some (.ref (am_B + 1)), some (.ref 0), some (.ref 65), some (.int i)], [(.int (sx X (i.toInt + 3))), (.int (sx X (i.toInt + 2))), (.int (sx X (i.toInt + 1))), (.ref 0)]) w
  refine aw_step (f1 := (1275, [some (.ref (am_B + 1)), some (.ref 0), some (.ref 65), some (.int i)], [(.ref (am_B + 1)), (.int (sx X (i.toInt + 3))), (.int (sx X (i.toInt + 2))), (.int (sx X (i.toInt + 1))), (.ref 0)])) (w1 := w) (lt_f rfl (Nat.le_of_ble_eq_true rfl)) rfl ?_
  refine aw_step (f1 := (1276, [some (.ref (am_B + 1)), some (.ref 0), some (.ref 65), some (.int i)], [(.int i), (.ref (am_B + 1)), (.int (sx X (i.toInt + 3))), (.int (sx X (i.toInt + 2))), (.int (sx X (i.toInt + 1))), (.ref 0)])) (w1 := w) (lt_f rfl (Nat.le_of_ble_eq_true rfl)) rfl ?_
  refine x_i (pc1 := 1277) (ls1 := [some (.ref (am_B + 1)), some (.ref 0), some (.ref 65), some (.int i)]) (st1 := [(.int i), (.ref (am_B + 1)), (.int (sx X (i.toInt + 3))), (.int (sx X (i.toInt + 2))), (.int (sx X (i.toInt + 1))), (.ref 0)]) (lt_f rfl (Nat.le_of_ble_eq_true rfl)) rfl fun x13 e14 => ?_
  have e14t : x13.toInt = 4 := by rw [e14]; rfl
  refine x_i (pc1 := 1278) (ls1 := [some (.ref (am_B + 1)), some (.ref 0), some (.ref 65), some (.int i)]) (st1 := [(.ref (am_B + 1)), (.int (sx X (i.toInt + 3))), (.int (sx X (i.toInt + 2))), (.int (sx X (i.toInt + 1))), (.ref 0)]) (lt_f rfl (Nat.le_of_ble_eq_true rfl)) rfl fun x15 e16 => ?_
  have e16 : x15 = i + x13 := e16
  have e16t : x15.toInt = i.toInt + x13.toInt := by rw [e16]; exact n_add (by omega) (by omega)
  refine x_ia 1279 (lt_f rfl (Nat.le_of_ble_eq_true rfl)) rfl (by omega) (by omega) ?_
  rw [show x15.toInt = i.toInt + 4 by omega]
  show aw (some X) _ 193 _ (1279, [some (.ref (am_B + 1)), some (.ref 0), some (.ref 65), some (.int i)], [(.int (sx X (i.toInt + 4))), (.int (sx X (i.toInt + 3))), (.int (sx X (i.toInt + 2))), (.int (sx X (i.toInt + 1))), (.ref 0)]) w
  refine aw_step (f1 := (1280, [some (.ref (am_B + 1)), some (.ref 0), some (.ref 65), some (.int i)], [(.ref (am_B + 1)), (.int (sx X (i.toInt + 4))), (.int (sx X (i.toInt + 3))), (.int (sx X (i.toInt + 2))), (.int (sx X (i.toInt + 1))), (.ref 0)])) (w1 := w) (lt_f rfl (Nat.le_of_ble_eq_true rfl)) rfl ?_
  refine aw_step (f1 := (1281, [some (.ref (am_B + 1)), some (.ref 0), some (.ref 65), some (.int i)], [(.int i), (.ref (am_B + 1)), (.int (sx X (i.toInt + 4))), (.int (sx X (i.toInt + 3))), (.int (sx X (i.toInt + 2))), (.int (sx X (i.toInt + 1))), (.ref 0)])) (w1 := w) (lt_f rfl (Nat.le_of_ble_eq_true rfl)) rfl ?_
  refine x_i (pc1 := 1282) (ls1 := [some (.ref (am_B + 1)), some (.ref 0), some (.ref 65), some (.int i)]) (st1 := [(.int i), (.ref (am_B + 1)), (.int (sx X (i.toInt + 4))), (.int (sx X (i.toInt + 3))), (.int (sx X (i.toInt + 2))), (.int (sx X (i.toInt + 1))), (.ref 0)]) (lt_f rfl (Nat.le_of_ble_eq_true rfl)) rfl fun x17 e18 => ?_
  have e18t : x17.toInt = 5 := by rw [e18]; rfl
  refine x_i (pc1 := 1283) (ls1 := [some (.ref (am_B + 1)), some (.ref 0), some (.ref 65), some (.int i)]) (st1 := [(.ref (am_B + 1)), (.int (sx X (i.toInt + 4))), (.int (sx X (i.toInt + 3))), (.int (sx X (i.toInt + 2))), (.int (sx X (i.toInt + 1))), (.ref 0)]) (lt_f rfl (Nat.le_of_ble_eq_true rfl)) rfl fun x19 e20 => ?_
  have e20 : x19 = i + x17 := e20
  have e20t : x19.toInt = i.toInt + x17.toInt := by rw [e20]; exact n_add (by omega) (by omega)
  refine x_ia 1284 (lt_f rfl (Nat.le_of_ble_eq_true rfl)) rfl (by omega) (by omega) ?_
  rw [show x19.toInt = i.toInt + 5 by omega]
  show aw (some X) _ 193 _ (1284, [some (.ref (am_B + 1)), some (.ref 0), some (.ref 65), some (.int i)], [(.int (sx X (i.toInt + 5))), (.int (sx X (i.toInt + 4))), (.int (sx X (i.toInt + 3))), (.int (sx X (i.toInt + 2))), (.int (sx X (i.toInt + 1))), (.ref 0)]) w
  refine x_cv (z := 90) (p := 0) (as := [(.int (sx X (i.toInt + 1))), (.int (sx X (i.toInt + 2))), (.int (sx X (i.toInt + 3))), (.int (sx X (i.toInt + 4))), (.int (sx X (i.toInt + 5)))]) (st1 := []) (H.inv) 1287 (lt_f rfl (Nat.le_of_ble_eq_true rfl)) rfl rfl rfl rfl rfl rfl rfl (Nat.le_of_ble_eq_true rfl) (Nat.le_of_ble_eq_true rfl) ((tc_guard (sx X (i.toInt + 1)) (sx X (i.toInt + 2)) (sx X (i.toInt + 3)) (sx X (i.toInt + 4)) (sx X (i.toInt + 5)) H).deep (by omega)) ?_
  rintro _ w22 ⟨⟨Hw22, w22l⟩, x21, rfl⟩
  refine ⟨w22l, ?_⟩
  show aw (some X) _ 193 _ (1287, [some (.ref (am_B + 1)), some (.ref 0), some (.ref 65), some (.int i)], [(.int x21)]) w22
  refine aw_step (f1 := (1288, [some (.ref (am_B + 1)), some (.ref 0), some (.ref 65), some (.int i)], [])) (w1 := w22) (lt_f rfl (Nat.le_of_ble_eq_true rfl)) rfl ?_
  refine aw_step (f1 := (1289, [some (.ref (am_B + 1)), some (.ref 0), some (.ref 65), some (.int i)], [(.ref 65)])) (w1 := w22) (lt_f rfl (Nat.le_of_ble_eq_true rfl)) rfl ?_
  refine aw_step (f1 := (1290, [some (.ref (am_B + 1)), some (.ref 0), some (.ref 65), some (.int i)], [(.ref (am_B + 1)), (.ref 65)])) (w1 := w22) (lt_f rfl (Nat.le_of_ble_eq_true rfl)) rfl ?_
  refine aw_step (f1 := (1291, [some (.ref (am_B + 1)), some (.ref 0), some (.ref 65), some (.int i)], [(.int i), (.ref (am_B + 1)), (.ref 65)])) (w1 := w22) (lt_f rfl (Nat.le_of_ble_eq_true rfl)) rfl ?_
  refine x_i (pc1 := 1292) (ls1 := [some (.ref (am_B + 1)), some (.ref 0), some (.ref 65), some (.int i)]) (st1 := [(.int i), (.ref (am_B + 1)), (.ref 65)]) (lt_f rfl (Nat.le_of_ble_eq_true rfl)) rfl fun x23 e24 => ?_
  have e24t : x23.toInt = 1 := by rw [e24]; rfl
  refine x_i (pc1 := 1293) (ls1 := [some (.ref (am_B + 1)), some (.ref 0), some (.ref 65), some (.int i)]) (st1 := [(.ref (am_B + 1)), (.ref 65)]) (lt_f rfl (Nat.le_of_ble_eq_true rfl)) rfl fun x25 e26 => ?_
  have e26 : x25 = i + x23 := e26
  have e26t : x25.toInt = i.toInt + x23.toInt := by rw [e26]; exact n_add (by omega) (by omega)
  refine x_ia 1294 (lt_f rfl (Nat.le_of_ble_eq_true rfl)) rfl (by omega) (by omega) ?_
  rw [show x25.toInt = i.toInt + 1 by omega]
  show aw (some X) _ 193 _ (1294, [some (.ref (am_B + 1)), some (.ref 0), some (.ref 65), some (.int i)], [(.int (sx X (i.toInt + 1))), (.ref 65)]) w22
  refine aw_step (f1 := (1295, [some (.ref (am_B + 1)), some (.ref 0), some (.ref 65), some (.int i)], [(.ref (am_B + 1)), (.int (sx X (i.toInt + 1))), (.ref 65)])) (w1 := w22) (lt_f rfl (Nat.le_of_ble_eq_true rfl)) rfl ?_
  refine aw_step (f1 := (1296, [some (.ref (am_B + 1)), some (.ref 0), some (.ref 65), some (.int i)], [(.int i), (.ref (am_B + 1)), (.int (sx X (i.toInt + 1))), (.ref 65)])) (w1 := w22) (lt_f rfl (Nat.le_of_ble_eq_true rfl)) rfl ?_
  refine x_i (pc1 := 1297) (ls1 := [some (.ref (am_B + 1)), some (.ref 0), some (.ref 65), some (.int i)]) (st1 := [(.int i), (.ref (am_B + 1)), (.int (sx X (i.toInt + 1))), (.ref 65)]) (lt_f rfl (Nat.le_of_ble_eq_true rfl)) rfl fun x27 e28 => ?_
  have e28t : x27.toInt = 2 := by rw [e28]; rfl
  refine x_i (pc1 := 1298) (ls1 := [some (.ref (am_B + 1)), some (.ref 0), some (.ref 65), some (.int i)]) (st1 := [(.ref (am_B + 1)), (.int (sx X (i.toInt + 1))), (.ref 65)]) (lt_f rfl (Nat.le_of_ble_eq_true rfl)) rfl fun x29 e30 => ?_
  have e30 : x29 = i + x27 := e30
  have e30t : x29.toInt = i.toInt + x27.toInt := by rw [e30]; exact n_add (by omega) (by omega)
  refine x_ia 1299 (lt_f rfl (Nat.le_of_ble_eq_true rfl)) rfl (by omega) (by omega) ?_
  rw [show x29.toInt = i.toInt + 2 by omega]
  show aw (some X) _ 193 _ (1299, [some (.ref (am_B + 1)), some (.ref 0), some (.ref 65), some (.int i)], [(.int (sx X (i.toInt + 2))), (.int (sx X (i.toInt + 1))), (.ref 65)]) w22
  refine aw_step (f1 := (1300, [some (.ref (am_B + 1)), some (.ref 0), some (.ref 65), some (.int i)], [(.ref (am_B + 1)), (.int (sx X (i.toInt + 2))), (.int (sx X (i.toInt + 1))), (.ref 65)])) (w1 := w22) (lt_f rfl (Nat.le_of_ble_eq_true rfl)) rfl ?_
  refine aw_step (f1 := (1301, [some (.ref (am_B + 1)), some (.ref 0), some (.ref 65), some (.int i)], [(.int i), (.ref (am_B + 1)), (.int (sx X (i.toInt + 2))), (.int (sx X (i.toInt + 1))), (.ref 65)])) (w1 := w22) (lt_f rfl (Nat.le_of_ble_eq_true rfl)) rfl ?_
  refine x_i (pc1 := 1302) (ls1 := [some (.ref (am_B + 1)), some (.ref 0), some (.ref 65), some (.int i)]) (st1 := [(.int i), (.ref (am_B + 1)), (.int (sx X (i.toInt + 2))), (.int (sx X (i.toInt + 1))), (.ref 65)]) (lt_f rfl (Nat.le_of_ble_eq_true rfl)) rfl fun x31 e32 => ?_
  have e32t : x31.toInt = 3 := by rw [e32]; rfl
  refine x_i (pc1 := 1303) (ls1 := [some (.ref (am_B + 1)), some (.ref 0), some (.ref 65), some (.int i)]) (st1 := [(.ref (am_B + 1)), (.int (sx X (i.toInt + 2))), (.int (sx X (i.toInt + 1))), (.ref 65)]) (lt_f rfl (Nat.le_of_ble_eq_true rfl)) rfl fun x33 e34 => ?_
  have e34 : x33 = i + x31 := e34
  have e34t : x33.toInt = i.toInt + x31.toInt := by rw [e34]; exact n_add (by omega) (by omega)
  refine x_ia 1304 (lt_f rfl (Nat.le_of_ble_eq_true rfl)) rfl (by omega) (by omega) ?_
  rw [show x33.toInt = i.toInt + 3 by omega]
  show aw (some X) _ 193 _ (1304, [some (.ref (am_B + 1)), some (.ref 0), some (.ref 65), some (.int i)], [(.int (sx X (i.toInt + 3))), (.int (sx X (i.toInt + 2))), (.int (sx X (i.toInt + 1))), (.ref 65)]) w22
  refine aw_step (f1 := (1305, [some (.ref (am_B + 1)), some (.ref 0), some (.ref 65), some (.int i)], [(.ref (am_B + 1)), (.int (sx X (i.toInt + 3))), (.int (sx X (i.toInt + 2))), (.int (sx X (i.toInt + 1))), (.ref 65)])) (w1 := w22) (lt_f rfl (Nat.le_of_ble_eq_true rfl)) rfl ?_
  refine aw_step (f1 := (1306, [some (.ref (am_B + 1)), some (.ref 0), some (.ref 65), some (.int i)], [(.int i), (.ref (am_B + 1)), (.int (sx X (i.toInt + 3))), (.int (sx X (i.toInt + 2))), (.int (sx X (i.toInt + 1))), (.ref 65)])) (w1 := w22) (lt_f rfl (Nat.le_of_ble_eq_true rfl)) rfl ?_
  refine x_i (pc1 := 1307) (ls1 := [some (.ref (am_B + 1)), some (.ref 0), some (.ref 65), some (.int i)]) (st1 := [(.int i), (.ref (am_B + 1)), (.int (sx X (i.toInt + 3))), (.int (sx X (i.toInt + 2))), (.int (sx X (i.toInt + 1))), (.ref 65)]) (lt_f rfl (Nat.le_of_ble_eq_true rfl)) rfl fun x35 e36 => ?_
  have e36t : x35.toInt = 4 := by rw [e36]; rfl
  refine x_i (pc1 := 1308) (ls1 := [some (.ref (am_B + 1)), some (.ref 0), some (.ref 65), some (.int i)]) (st1 := [(.ref (am_B + 1)), (.int (sx X (i.toInt + 3))), (.int (sx X (i.toInt + 2))), (.int (sx X (i.toInt + 1))), (.ref 65)]) (lt_f rfl (Nat.le_of_ble_eq_true rfl)) rfl fun x37 e38 => ?_
  have e38 : x37 = i + x35 := e38
  have e38t : x37.toInt = i.toInt + x35.toInt := by rw [e38]; exact n_add (by omega) (by omega)
  refine x_ia 1309 (lt_f rfl (Nat.le_of_ble_eq_true rfl)) rfl (by omega) (by omega) ?_
  rw [show x37.toInt = i.toInt + 4 by omega]
  show aw (some X) _ 193 _ (1309, [some (.ref (am_B + 1)), some (.ref 0), some (.ref 65), some (.int i)], [(.int (sx X (i.toInt + 4))), (.int (sx X (i.toInt + 3))), (.int (sx X (i.toInt + 2))), (.int (sx X (i.toInt + 1))), (.ref 65)]) w22
  refine aw_step (f1 := (1310, [some (.ref (am_B + 1)), some (.ref 0), some (.ref 65), some (.int i)], [(.ref (am_B + 1)), (.int (sx X (i.toInt + 4))), (.int (sx X (i.toInt + 3))), (.int (sx X (i.toInt + 2))), (.int (sx X (i.toInt + 1))), (.ref 65)])) (w1 := w22) (lt_f rfl (Nat.le_of_ble_eq_true rfl)) rfl ?_
  refine aw_step (f1 := (1311, [some (.ref (am_B + 1)), some (.ref 0), some (.ref 65), some (.int i)], [(.int i), (.ref (am_B + 1)), (.int (sx X (i.toInt + 4))), (.int (sx X (i.toInt + 3))), (.int (sx X (i.toInt + 2))), (.int (sx X (i.toInt + 1))), (.ref 65)])) (w1 := w22) (lt_f rfl (Nat.le_of_ble_eq_true rfl)) rfl ?_
  refine x_i (pc1 := 1312) (ls1 := [some (.ref (am_B + 1)), some (.ref 0), some (.ref 65), some (.int i)]) (st1 := [(.int i), (.ref (am_B + 1)), (.int (sx X (i.toInt + 4))), (.int (sx X (i.toInt + 3))), (.int (sx X (i.toInt + 2))), (.int (sx X (i.toInt + 1))), (.ref 65)]) (lt_f rfl (Nat.le_of_ble_eq_true rfl)) rfl fun x39 e40 => ?_
  have e40t : x39.toInt = 5 := by rw [e40]; rfl
  refine x_i (pc1 := 1313) (ls1 := [some (.ref (am_B + 1)), some (.ref 0), some (.ref 65), some (.int i)]) (st1 := [(.ref (am_B + 1)), (.int (sx X (i.toInt + 4))), (.int (sx X (i.toInt + 3))), (.int (sx X (i.toInt + 2))), (.int (sx X (i.toInt + 1))), (.ref 65)]) (lt_f rfl (Nat.le_of_ble_eq_true rfl)) rfl fun x41 e42 => ?_
  have e42 : x41 = i + x39 := e42
  have e42t : x41.toInt = i.toInt + x39.toInt := by rw [e42]; exact n_add (by omega) (by omega)
  refine x_ia 1314 (lt_f rfl (Nat.le_of_ble_eq_true rfl)) rfl (by omega) (by omega) ?_
  rw [show x41.toInt = i.toInt + 5 by omega]
  show aw (some X) _ 193 _ (1314, [some (.ref (am_B + 1)), some (.ref 0), some (.ref 65), some (.int i)], [(.int (sx X (i.toInt + 5))), (.int (sx X (i.toInt + 4))), (.int (sx X (i.toInt + 3))), (.int (sx X (i.toInt + 2))), (.int (sx X (i.toInt + 1))), (.ref 65)]) w22
  refine x_cv (z := 176) (p := 65) (as := [(.int (sx X (i.toInt + 1))), (.int (sx X (i.toInt + 2))), (.int (sx X (i.toInt + 3))), (.int (sx X (i.toInt + 4))), (.int (sx X (i.toInt + 5)))]) (st1 := []) (Hw22.inv) 1317 (lt_f rfl (Nat.le_of_ble_eq_true rfl)) rfl rfl rfl rfl rfl rfl rfl (Nat.le_of_ble_eq_true rfl) (Nat.le_of_ble_eq_true rfl) ((tm_guard (sx X (i.toInt + 1)) (sx X (i.toInt + 2)) (sx X (i.toInt + 3)) (sx X (i.toInt + 4)) (sx X (i.toInt + 5)) Hw22).deep (by omega)) ?_
  rintro _ w44 ⟨⟨Hw44, w44l⟩, x43, rfl⟩
  refine ⟨w44l, ?_⟩
  show aw (some X) _ 193 _ (1317, [some (.ref (am_B + 1)), some (.ref 0), some (.ref 65), some (.int i)], [(.int x43)]) w44
  refine aw_step (f1 := (1318, [some (.ref (am_B + 1)), some (.ref 0), some (.ref 65), some (.int i)], [])) (w1 := w44) (lt_f rfl (Nat.le_of_ble_eq_true rfl)) rfl ?_
  refine aw_step (f1 := (1476, [some (.ref (am_B + 1)), some (.ref 0), some (.ref 65), some (.int i)], [])) (w1 := w44) (lt_f rfl (Nat.le_of_ble_eq_true rfl)) rfl ?_
  exact K w44 Hw44
set_option maxRecDepth 100000 in
theorem lk_31 {X : List Int32} {Q : Option Value → am_W → Prop} {w : am_W} {i : Int32} (h0 : 0 ≤ i.toInt) (h6 : i.toInt + 6 ≤ X.length) (hX : X.length ≤ 384) (H : TI w) (K : ∀ w1, TI w1 → aw (some X) 60 193 Q (1476, [some (.ref (am_B + 1)), some (.ref 0), some (.ref 65), some (.int i)], []) w1) : aw (some X) 60 193 Q (1321, [some (.ref (am_B + 1)), some (.ref 0), some (.ref 65), some (.int i)], []) w := by
  refine aw_step (f1 := (1322, [some (.ref (am_B + 1)), some (.ref 0), some (.ref 65), some (.int i)], [(.ref 0)])) (w1 := w) (lt_f rfl (Nat.le_of_ble_eq_true rfl)) rfl ?_
  refine aw_step (f1 := (1323, [some (.ref (am_B + 1)), some (.ref 0), some (.ref 65), some (.int i)], [(.ref (am_B + 1)), (.ref 0)])) (w1 := w) (lt_f rfl (Nat.le_of_ble_eq_true rfl)) rfl ?_
  refine aw_step (f1 := (1324, [some (.ref (am_B + 1)), some (.ref 0), some (.ref 65), some (.int i)], [(.int i), (.ref (am_B + 1)), (.ref 0)])) (w1 := w) (lt_f rfl (Nat.le_of_ble_eq_true rfl)) rfl ?_
  refine x_i (pc1 := 1325) (ls1 := [some (.ref (am_B + 1)), some (.ref 0), some (.ref 65), some (.int i)]) (st1 := [(.int i), (.ref (am_B + 1)), (.ref 0)]) (lt_f rfl (Nat.le_of_ble_eq_true rfl)) rfl fun x1 e2 => ?_
  have e2t : x1.toInt = 1 := by rw [e2]; rfl
  refine x_i (pc1 := 1326) (ls1 := [some (.ref (am_B + 1)), some (.ref 0), some (.ref 65), some (.int i)]) (st1 := [(.ref (am_B + 1)), (.ref 0)]) (lt_f rfl (Nat.le_of_ble_eq_true rfl)) rfl fun x3 e4 => ?_
  have e4 : x3 = i + x1 := e4
  have e4t : x3.toInt = i.toInt + x1.toInt := by rw [e4]; exact n_add (by omega) (by omega)
  refine x_ia 1327 (lt_f rfl (Nat.le_of_ble_eq_true rfl)) rfl (by omega) (by omega) ?_
  rw [show x3.toInt = i.toInt + 1 by omega]
  show aw (some X) _ 193 _ (1327, [some (.ref (am_B + 1)), some (.ref 0), some (.ref 65), some (.int i)], [(.int (sx X (i.toInt + 1))), (.ref 0)]) w
  refine aw_step (f1 := (1328, [some (.ref (am_B + 1)), some (.ref 0), some (.ref 65), some (.int i)], [(.ref (am_B + 1)), (.int (sx X (i.toInt + 1))), (.ref 0)])) (w1 := w) (lt_f rfl (Nat.le_of_ble_eq_true rfl)) rfl ?_
  refine aw_step (f1 := (1329, [some (.ref (am_B + 1)), some (.ref 0), some (.ref 65), some (.int i)], [(.int i), (.ref (am_B + 1)), (.int (sx X (i.toInt + 1))), (.ref 0)])) (w1 := w) (lt_f rfl (Nat.le_of_ble_eq_true rfl)) rfl ?_
  refine x_i (pc1 := 1330) (ls1 := [some (.ref (am_B + 1)), some (.ref 0), some (.ref 65), some (.int i)]) (st1 := [(.int i), (.ref (am_B + 1)), (.int (sx X (i.toInt + 1))), (.ref 0)]) (lt_f rfl (Nat.le_of_ble_eq_true rfl)) rfl fun x5 e6 => ?_
  have e6t : x5.toInt = 2 := by rw [e6]; rfl
  refine x_i (pc1 := 1331) (ls1 := [some (.ref (am_B + 1)), some (.ref 0), some (.ref 65), some (.int i)]) (st1 := [(.ref (am_B + 1)), (.int (sx X (i.toInt + 1))), (.ref 0)]) (lt_f rfl (Nat.le_of_ble_eq_true rfl)) rfl fun x7 e8 => ?_
  have e8 : x7 = i + x5 := e8
  have e8t : x7.toInt = i.toInt + x5.toInt := by rw [e8]; exact n_add (by omega) (by omega)
  refine x_ia 1332 (lt_f rfl (Nat.le_of_ble_eq_true rfl)) rfl (by omega) (by omega) ?_
  rw [show x7.toInt = i.toInt + 2 by omega]
  show aw (some X) _ 193 _ (1332, [some (.ref (am_B + 1)), some (.ref 0), some (.ref 65), some (.int i)], [(.int (sx X (i.toInt + 2))), (.int (sx X (i.toInt + 1))), (.ref 0)]) w
  refine x_cv (z := 91) (p := 0) (as := [(.int (sx X (i.toInt + 1))), (.int (sx X (i.toInt + 2)))]) (st1 := []) (H.inv) 1335 (lt_f rfl (Nat.le_of_ble_eq_true rfl)) rfl rfl rfl rfl rfl rfl rfl (Nat.le_of_ble_eq_true rfl) (Nat.le_of_ble_eq_true rfl) ((tc_posts (sx X (i.toInt + 1)) (sx X (i.toInt + 2)) H).deep (by omega)) ?_
  rintro _ w10 ⟨⟨Hw10, w10l⟩, x9, rfl⟩
  refine ⟨w10l, ?_⟩
  show aw (some X) _ 193 _ (1335, [some (.ref (am_B + 1)), some (.ref 0), some (.ref 65), some (.int i)], [(.int x9)]) w10
  refine aw_step (f1 := (1336, [some (.ref (am_B + 1)), some (.ref 0), some (.ref 65), some (.int i)], [])) (w1 := w10) (lt_f rfl (Nat.le_of_ble_eq_true rfl)) rfl ?_
  refine aw_step (f1 := (1337, [some (.ref (am_B + 1)), some (.ref 0), some (.ref 65), some (.int i)], [(.ref 65)])) (w1 := w10) (lt_f rfl (Nat.le_of_ble_eq_true rfl)) rfl ?_
  refine aw_step (f1 := (1338, [some (.ref (am_B + 1)), some (.ref 0), some (.ref 65), some (.int i)], [(.ref (am_B + 1)), (.ref 65)])) (w1 := w10) (lt_f rfl (Nat.le_of_ble_eq_true rfl)) rfl ?_
  refine aw_step (f1 := (1339, [some (.ref (am_B + 1)), some (.ref 0), some (.ref 65), some (.int i)], [(.int i), (.ref (am_B + 1)), (.ref 65)])) (w1 := w10) (lt_f rfl (Nat.le_of_ble_eq_true rfl)) rfl ?_
  refine x_i (pc1 := 1340) (ls1 := [some (.ref (am_B + 1)), some (.ref 0), some (.ref 65), some (.int i)]) (st1 := [(.int i), (.ref (am_B + 1)), (.ref 65)]) (lt_f rfl (Nat.le_of_ble_eq_true rfl)) rfl fun x11 e12 => ?_
  have e12t : x11.toInt = 1 := by rw [e12]; rfl
  refine x_i (pc1 := 1341) (ls1 := [some (.ref (am_B + 1)), some (.ref 0), some (.ref 65), some (.int i)]) (st1 := [(.ref (am_B + 1)), (.ref 65)]) (lt_f rfl (Nat.le_of_ble_eq_true rfl)) rfl fun x13 e14 => ?_
  have e14 : x13 = i + x11 := e14
  have e14t : x13.toInt = i.toInt + x11.toInt := by rw [e14]; exact n_add (by omega) (by omega)
  refine x_ia 1342 (lt_f rfl (Nat.le_of_ble_eq_true rfl)) rfl (by omega) (by omega) ?_
  rw [show x13.toInt = i.toInt + 1 by omega]
  show aw (some X) _ 193 _ (1342, [some (.ref (am_B + 1)), some (.ref 0), some (.ref 65), some (.int i)], [(.int (sx X (i.toInt + 1))), (.ref 65)]) w10
  refine aw_step (f1 := (1343, [some (.ref (am_B + 1)), some (.ref 0), some (.ref 65), some (.int i)], [(.ref (am_B + 1)), (.int (sx X (i.toInt + 1))), (.ref 65)])) (w1 := w10) (lt_f rfl (Nat.le_of_ble_eq_true rfl)) rfl ?_
  refine aw_step (f1 := (1344, [some (.ref (am_B + 1)), some (.ref 0), some (.ref 65), some (.int i)], [(.int i), (.ref (am_B + 1)), (.int (sx X (i.toInt + 1))), (.ref 65)])) (w1 := w10) (lt_f rfl (Nat.le_of_ble_eq_true rfl)) rfl ?_
  refine x_i (pc1 := 1345) (ls1 := [some (.ref (am_B + 1)), some (.ref 0), some (.ref 65), some (.int i)]) (st1 := [(.int i), (.ref (am_B + 1)), (.int (sx X (i.toInt + 1))), (.ref 65)]) (lt_f rfl (Nat.le_of_ble_eq_true rfl)) rfl fun x15 e16 => ?_
  have e16t : x15.toInt = 2 := by rw [e16]; rfl
  refine x_i (pc1 := 1346) (ls1 := [some (.ref (am_B + 1)), some (.ref 0), some (.ref 65), some (.int i)]) (st1 := [(.ref (am_B + 1)), (.int (sx X (i.toInt + 1))), (.ref 65)]) (lt_f rfl (Nat.le_of_ble_eq_true rfl)) rfl fun x17 e18 => ?_
  have e18 : x17 = i + x15 := e18
  have e18t : x17.toInt = i.toInt + x15.toInt := by rw [e18]; exact n_add (by omega) (by omega)
  refine x_ia 1347 (lt_f rfl (Nat.le_of_ble_eq_true rfl)) rfl (by omega) (by omega) ?_
  rw [show x17.toInt = i.toInt + 2 by omega]
  show aw (some X) _ 193 _ (1347, [some (.ref (am_B + 1)), some (.ref 0), some (.ref 65), some (.int i)], [(.int (sx X (i.toInt + 2))), (.int (sx X (i.toInt + 1))), (.ref 65)]) w10
  refine x_cv (z := 177) (p := 65) (as := [(.int (sx X (i.toInt + 1))), (.int (sx X (i.toInt + 2)))]) (st1 := []) (Hw10.inv) 1350 (lt_f rfl (Nat.le_of_ble_eq_true rfl)) rfl rfl rfl rfl rfl rfl rfl (Nat.le_of_ble_eq_true rfl) (Nat.le_of_ble_eq_true rfl) ((tm_posts (sx X (i.toInt + 1)) (sx X (i.toInt + 2)) Hw10).deep (by omega)) ?_
  rintro _ w20 ⟨⟨Hw20, w20l⟩, x19, rfl⟩
  refine ⟨w20l, ?_⟩
  show aw (some X) _ 193 _ (1350, [some (.ref (am_B + 1)), some (.ref 0), some (.ref 65), some (.int i)], [(.int x19)]) w20
  refine aw_step (f1 := (1351, [some (.ref (am_B + 1)), some (.ref 0), some (.ref 65), some (.int i)], [])) (w1 := w20) (lt_f rfl (Nat.le_of_ble_eq_true rfl)) rfl ?_
  refine aw_step (f1 := (1476, [some (.ref (am_B + 1)), some (.ref 0), some (.ref 65), some (.int i)], [])) (w1 := w20) (lt_f rfl (Nat.le_of_ble_eq_true rfl)) rfl ?_
  exact K w20 Hw20
set_option maxRecDepth 100000 in
theorem lk_32 {X : List Int32} {Q : Option Value → am_W → Prop} {w : am_W} {i : Int32} (h0 : 0 ≤ i.toInt) (h6 : i.toInt + 6 ≤ X.length) (hX : X.length ≤ 384) (H : TI w) (K : ∀ w1, TI w1 → aw (some X) 60 193 Q (1476, [some (.ref (am_B + 1)), some (.ref 0), some (.ref 65), some (.int i)], []) w1) : aw (some X) 60 193 Q (1354, [some (.ref (am_B + 1)), some (.ref 0), some (.ref 65), some (.int i)], []) w := by
  refine aw_step (f1 := (1355, [some (.ref (am_B + 1)), some (.ref 0), some (.ref 65), some (.int i)], [(.ref 0)])) (w1 := w) (lt_f rfl (Nat.le_of_ble_eq_true rfl)) rfl ?_
  refine aw_step (f1 := (1356, [some (.ref (am_B + 1)), some (.ref 0), some (.ref 65), some (.int i)], [(.ref (am_B + 1)), (.ref 0)])) (w1 := w) (lt_f rfl (Nat.le_of_ble_eq_true rfl)) rfl ?_
  refine aw_step (f1 := (1357, [some (.ref (am_B + 1)), some (.ref 0), some (.ref 65), some (.int i)], [(.int i), (.ref (am_B + 1)), (.ref 0)])) (w1 := w) (lt_f rfl (Nat.le_of_ble_eq_true rfl)) rfl ?_
  refine x_i (pc1 := 1358) (ls1 := [some (.ref (am_B + 1)), some (.ref 0), some (.ref 65), some (.int i)]) (st1 := [(.int i), (.ref (am_B + 1)), (.ref 0)]) (lt_f rfl (Nat.le_of_ble_eq_true rfl)) rfl fun x1 e2 => ?_
  have e2t : x1.toInt = 1 := by rw [e2]; rfl
  refine x_i (pc1 := 1359) (ls1 := [some (.ref (am_B + 1)), some (.ref 0), some (.ref 65), some (.int i)]) (st1 := [(.ref (am_B + 1)), (.ref 0)]) (lt_f rfl (Nat.le_of_ble_eq_true rfl)) rfl fun x3 e4 => ?_
  have e4 : x3 = i + x1 := e4
  have e4t : x3.toInt = i.toInt + x1.toInt := by rw [e4]; exact n_add (by omega) (by omega)
  refine x_ia 1360 (lt_f rfl (Nat.le_of_ble_eq_true rfl)) rfl (by omega) (by omega) ?_
  rw [show x3.toInt = i.toInt + 1 by omega]
  show aw (some X) _ 193 _ (1360, [some (.ref (am_B + 1)), some (.ref 0), some (.ref 65), some (.int i)], [(.int (sx X (i.toInt + 1))), (.ref 0)]) w
  refine aw_step (f1 := (1361, [some (.ref (am_B + 1)), some (.ref 0), some (.ref 65), some (.int i)], [(.ref (am_B + 1)), (.int (sx X (i.toInt + 1))), (.ref 0)])) (w1 := w) (lt_f rfl (Nat.le_of_ble_eq_true rfl)) rfl ?_
  refine aw_step (f1 := (1362, [some (.ref (am_B + 1)), some (.ref 0), some (.ref 65), some (.int i)], [(.int i), (.ref (am_B + 1)), (.int (sx X (i.toInt + 1))), (.ref 0)])) (w1 := w) (lt_f rfl (Nat.le_of_ble_eq_true rfl)) rfl ?_
  refine x_i (pc1 := 1363) (ls1 := [some (.ref (am_B + 1)), some (.ref 0), some (.ref 65), some (.int i)]) (st1 := [(.int i), (.ref (am_B + 1)), (.int (sx X (i.toInt + 1))), (.ref 0)]) (lt_f rfl (Nat.le_of_ble_eq_true rfl)) rfl fun x5 e6 => ?_
  have e6t : x5.toInt = 2 := by rw [e6]; rfl
  refine x_i (pc1 := 1364) (ls1 := [some (.ref (am_B + 1)), some (.ref 0), some (.ref 65), some (.int i)]) (st1 := [(.ref (am_B + 1)), (.int (sx X (i.toInt + 1))), (.ref 0)]) (lt_f rfl (Nat.le_of_ble_eq_true rfl)) rfl fun x7 e8 => ?_
  have e8 : x7 = i + x5 := e8
  have e8t : x7.toInt = i.toInt + x5.toInt := by rw [e8]; exact n_add (by omega) (by omega)
  refine x_ia 1365 (lt_f rfl (Nat.le_of_ble_eq_true rfl)) rfl (by omega) (by omega) ?_
  rw [show x7.toInt = i.toInt + 2 by omega]
  show aw (some X) _ 193 _ (1365, [some (.ref (am_B + 1)), some (.ref 0), some (.ref 65), some (.int i)], [(.int (sx X (i.toInt + 2))), (.int (sx X (i.toInt + 1))), (.ref 0)]) w
  refine aw_step (f1 := (1366, [some (.ref (am_B + 1)), some (.ref 0), some (.ref 65), some (.int i)], [(.ref (am_B + 1)), (.int (sx X (i.toInt + 2))), (.int (sx X (i.toInt + 1))), (.ref 0)])) (w1 := w) (lt_f rfl (Nat.le_of_ble_eq_true rfl)) rfl ?_
  refine aw_step (f1 := (1367, [some (.ref (am_B + 1)), some (.ref 0), some (.ref 65), some (.int i)], [(.int i), (.ref (am_B + 1)), (.int (sx X (i.toInt + 2))), (.int (sx X (i.toInt + 1))), (.ref 0)])) (w1 := w) (lt_f rfl (Nat.le_of_ble_eq_true rfl)) rfl ?_
  refine x_i (pc1 := 1368) (ls1 := [some (.ref (am_B + 1)), some (.ref 0), some (.ref 65), some (.int i)]) (st1 := [(.int i), (.ref (am_B + 1)), (.int (sx X (i.toInt + 2))), (.int (sx X (i.toInt + 1))), (.ref 0)]) (lt_f rfl (Nat.le_of_ble_eq_true rfl)) rfl fun x9 e10 => ?_
  have e10t : x9.toInt = 3 := by rw [e10]; rfl
  refine x_i (pc1 := 1369) (ls1 := [some (.ref (am_B + 1)), some (.ref 0), some (.ref 65), some (.int i)]) (st1 := [(.ref (am_B + 1)), (.int (sx X (i.toInt + 2))), (.int (sx X (i.toInt + 1))), (.ref 0)]) (lt_f rfl (Nat.le_of_ble_eq_true rfl)) rfl fun x11 e12 => ?_
  have e12 : x11 = i + x9 := e12
  have e12t : x11.toInt = i.toInt + x9.toInt := by rw [e12]; exact n_add (by omega) (by omega)
  refine x_ia 1370 (lt_f rfl (Nat.le_of_ble_eq_true rfl)) rfl (by omega) (by omega) ?_
  rw [show x11.toInt = i.toInt + 3 by omega]
  show aw (some X) _ 193 _ (1370, [some (.ref (am_B + 1)), some (.ref 0), some (.ref 65), some (.int i)], [(.int (sx X (i.toInt + 3))), (.int (sx X (i.toInt + 2))), (.int (sx X (i.toInt + 1))), (.ref 0)]) w
  refine aw_step (f1 := (1371, [some (.ref (am_B + 1)), some (.ref 0), some (.ref 65), some (.int i)], [(.ref (am_B + 1)), (.int (sx X (i.toInt + 3))), (.int (sx X (i.toInt + 2))), (.int (sx X (i.toInt + 1))), (.ref 0)])) (w1 := w) (lt_f rfl (Nat.le_of_ble_eq_true rfl)) rfl ?_
  refine aw_step (f1 := (1372, [some (.ref (am_B + 1)), some (.ref 0), some (.ref 65), some (.int i)], [(.int i), (.ref (am_B + 1)), (.int (sx X (i.toInt + 3))), (.int (sx X (i.toInt + 2))), (.int (sx X (i.toInt + 1))), (.ref 0)])) (w1 := w) (lt_f rfl (Nat.le_of_ble_eq_true rfl)) rfl ?_
  refine x_i (pc1 := 1373) (ls1 := [some (.ref (am_B + 1)), some (.ref 0), some (.ref 65), some (.int i)]) (st1 := [(.int i), (.ref (am_B + 1)), (.int (sx X (i.toInt + 3))), (.int (sx X (i.toInt + 2))), (.int (sx X (i.toInt + 1))), (.ref 0)]) (lt_f rfl (Nat.le_of_ble_eq_true rfl)) rfl fun x13 e14 => ?_
  have e14t : x13.toInt = 4 := by rw [e14]; rfl
  refine x_i (pc1 := 1374) (ls1 := [some (.ref (am_B + 1)), some (.ref 0), some (.ref 65), some (.int i)]) (st1 := [(.ref (am_B + 1)), (.int (sx X (i.toInt + 3))), (.int (sx X (i.toInt + 2))), (.int (sx X (i.toInt + 1))), (.ref 0)]) (lt_f rfl (Nat.le_of_ble_eq_true rfl)) rfl fun x15 e16 => ?_
  have e16 : x15 = i + x13 := e16
  have e16t : x15.toInt = i.toInt + x13.toInt := by rw [e16]; exact n_add (by omega) (by omega)
  refine x_ia 1375 (lt_f rfl (Nat.le_of_ble_eq_true rfl)) rfl (by omega) (by omega) ?_
  rw [show x15.toInt = i.toInt + 4 by omega]
  show aw (some X) _ 193 _ (1375, [some (.ref (am_B + 1)), some (.ref 0), some (.ref 65), some (.int i)], [(.int (sx X (i.toInt + 4))), (.int (sx X (i.toInt + 3))), (.int (sx X (i.toInt + 2))), (.int (sx X (i.toInt + 1))), (.ref 0)]) w
  refine x_cv (z := 92) (p := 0) (as := [(.int (sx X (i.toInt + 1))), (.int (sx X (i.toInt + 2))), (.int (sx X (i.toInt + 3))), (.int (sx X (i.toInt + 4)))]) (st1 := []) (H.inv) 1378 (lt_f rfl (Nat.le_of_ble_eq_true rfl)) rfl rfl rfl rfl rfl rfl rfl (Nat.le_of_ble_eq_true rfl) (Nat.le_of_ble_eq_true rfl) ((tc_year (sx X (i.toInt + 1)) (sx X (i.toInt + 2)) (sx X (i.toInt + 3)) (sx X (i.toInt + 4)) H).deep (by omega)) ?_
  rintro _ w18 ⟨⟨Hw18, w18l⟩, x17, rfl⟩
  refine ⟨w18l, ?_⟩
  show aw (some X) _ 193 _ (1378, [some (.ref (am_B + 1)), some (.ref 0), some (.ref 65), some (.int i)], [(.int x17)]) w18
  refine aw_step (f1 := (1379, [some (.ref (am_B + 1)), some (.ref 0), some (.ref 65), some (.int i)], [])) (w1 := w18) (lt_f rfl (Nat.le_of_ble_eq_true rfl)) rfl ?_
  refine aw_step (f1 := (1380, [some (.ref (am_B + 1)), some (.ref 0), some (.ref 65), some (.int i)], [(.ref 65)])) (w1 := w18) (lt_f rfl (Nat.le_of_ble_eq_true rfl)) rfl ?_
  refine aw_step (f1 := (1381, [some (.ref (am_B + 1)), some (.ref 0), some (.ref 65), some (.int i)], [(.ref (am_B + 1)), (.ref 65)])) (w1 := w18) (lt_f rfl (Nat.le_of_ble_eq_true rfl)) rfl ?_
  refine aw_step (f1 := (1382, [some (.ref (am_B + 1)), some (.ref 0), some (.ref 65), some (.int i)], [(.int i), (.ref (am_B + 1)), (.ref 65)])) (w1 := w18) (lt_f rfl (Nat.le_of_ble_eq_true rfl)) rfl ?_
  refine x_i (pc1 := 1383) (ls1 := [some (.ref (am_B + 1)), some (.ref 0), some (.ref 65), some (.int i)]) (st1 := [(.int i), (.ref (am_B + 1)), (.ref 65)]) (lt_f rfl (Nat.le_of_ble_eq_true rfl)) rfl fun x19 e20 => ?_
  have e20t : x19.toInt = 1 := by rw [e20]; rfl
  refine x_i (pc1 := 1384) (ls1 := [some (.ref (am_B + 1)), some (.ref 0), some (.ref 65), some (.int i)]) (st1 := [(.ref (am_B + 1)), (.ref 65)]) (lt_f rfl (Nat.le_of_ble_eq_true rfl)) rfl fun x21 e22 => ?_
  have e22 : x21 = i + x19 := e22
  have e22t : x21.toInt = i.toInt + x19.toInt := by rw [e22]; exact n_add (by omega) (by omega)
  refine x_ia 1385 (lt_f rfl (Nat.le_of_ble_eq_true rfl)) rfl (by omega) (by omega) ?_
  rw [show x21.toInt = i.toInt + 1 by omega]
  show aw (some X) _ 193 _ (1385, [some (.ref (am_B + 1)), some (.ref 0), some (.ref 65), some (.int i)], [(.int (sx X (i.toInt + 1))), (.ref 65)]) w18
  refine aw_step (f1 := (1386, [some (.ref (am_B + 1)), some (.ref 0), some (.ref 65), some (.int i)], [(.ref (am_B + 1)), (.int (sx X (i.toInt + 1))), (.ref 65)])) (w1 := w18) (lt_f rfl (Nat.le_of_ble_eq_true rfl)) rfl ?_
  refine aw_step (f1 := (1387, [some (.ref (am_B + 1)), some (.ref 0), some (.ref 65), some (.int i)], [(.int i), (.ref (am_B + 1)), (.int (sx X (i.toInt + 1))), (.ref 65)])) (w1 := w18) (lt_f rfl (Nat.le_of_ble_eq_true rfl)) rfl ?_
  refine x_i (pc1 := 1388) (ls1 := [some (.ref (am_B + 1)), some (.ref 0), some (.ref 65), some (.int i)]) (st1 := [(.int i), (.ref (am_B + 1)), (.int (sx X (i.toInt + 1))), (.ref 65)]) (lt_f rfl (Nat.le_of_ble_eq_true rfl)) rfl fun x23 e24 => ?_
  have e24t : x23.toInt = 2 := by rw [e24]; rfl
  refine x_i (pc1 := 1389) (ls1 := [some (.ref (am_B + 1)), some (.ref 0), some (.ref 65), some (.int i)]) (st1 := [(.ref (am_B + 1)), (.int (sx X (i.toInt + 1))), (.ref 65)]) (lt_f rfl (Nat.le_of_ble_eq_true rfl)) rfl fun x25 e26 => ?_
  have e26 : x25 = i + x23 := e26
  have e26t : x25.toInt = i.toInt + x23.toInt := by rw [e26]; exact n_add (by omega) (by omega)
  refine x_ia 1390 (lt_f rfl (Nat.le_of_ble_eq_true rfl)) rfl (by omega) (by omega) ?_
  rw [show x25.toInt = i.toInt + 2 by omega]
  show aw (some X) _ 193 _ (1390, [some (.ref (am_B + 1)), some (.ref 0), some (.ref 65), some (.int i)], [(.int (sx X (i.toInt + 2))), (.int (sx X (i.toInt + 1))), (.ref 65)]) w18
  refine aw_step (f1 := (1391, [some (.ref (am_B + 1)), some (.ref 0), some (.ref 65), some (.int i)], [(.ref (am_B + 1)), (.int (sx X (i.toInt + 2))), (.int (sx X (i.toInt + 1))), (.ref 65)])) (w1 := w18) (lt_f rfl (Nat.le_of_ble_eq_true rfl)) rfl ?_
  refine aw_step (f1 := (1392, [some (.ref (am_B + 1)), some (.ref 0), some (.ref 65), some (.int i)], [(.int i), (.ref (am_B + 1)), (.int (sx X (i.toInt + 2))), (.int (sx X (i.toInt + 1))), (.ref 65)])) (w1 := w18) (lt_f rfl (Nat.le_of_ble_eq_true rfl)) rfl ?_
  refine x_i (pc1 := 1393) (ls1 := [some (.ref (am_B + 1)), some (.ref 0), some (.ref 65), some (.int i)]) (st1 := [(.int i), (.ref (am_B + 1)), (.int (sx X (i.toInt + 2))), (.int (sx X (i.toInt + 1))), (.ref 65)]) (lt_f rfl (Nat.le_of_ble_eq_true rfl)) rfl fun x27 e28 => ?_
  have e28t : x27.toInt = 3 := by rw [e28]; rfl
  refine x_i (pc1 := 1394) (ls1 := [some (.ref (am_B + 1)), some (.ref 0), some (.ref 65), some (.int i)]) (st1 := [(.ref (am_B + 1)), (.int (sx X (i.toInt + 2))), (.int (sx X (i.toInt + 1))), (.ref 65)]) (lt_f rfl (Nat.le_of_ble_eq_true rfl)) rfl fun x29 e30 => ?_
  have e30 : x29 = i + x27 := e30
  have e30t : x29.toInt = i.toInt + x27.toInt := by rw [e30]; exact n_add (by omega) (by omega)
  refine x_ia 1395 (lt_f rfl (Nat.le_of_ble_eq_true rfl)) rfl (by omega) (by omega) ?_
  rw [show x29.toInt = i.toInt + 3 by omega]
  show aw (some X) _ 193 _ (1395, [some (.ref (am_B + 1)), some (.ref 0), some (.ref 65), some (.int i)], [(.int (sx X (i.toInt + 3))), (.int (sx X (i.toInt + 2))), (.int (sx X (i.toInt + 1))), (.ref 65)]) w18
  refine aw_step (f1 := (1396, [some (.ref (am_B + 1)), some (.ref 0), some (.ref 65), some (.int i)], [(.ref (am_B + 1)), (.int (sx X (i.toInt + 3))), (.int (sx X (i.toInt + 2))), (.int (sx X (i.toInt + 1))), (.ref 65)])) (w1 := w18) (lt_f rfl (Nat.le_of_ble_eq_true rfl)) rfl ?_
  refine aw_step (f1 := (1397, [some (.ref (am_B + 1)), some (.ref 0), some (.ref 65), some (.int i)], [(.int i), (.ref (am_B + 1)), (.int (sx X (i.toInt + 3))), (.int (sx X (i.toInt + 2))), (.int (sx X (i.toInt + 1))), (.ref 65)])) (w1 := w18) (lt_f rfl (Nat.le_of_ble_eq_true rfl)) rfl ?_
  refine x_i (pc1 := 1398) (ls1 := [some (.ref (am_B + 1)), some (.ref 0), some (.ref 65), some (.int i)]) (st1 := [(.int i), (.ref (am_B + 1)), (.int (sx X (i.toInt + 3))), (.int (sx X (i.toInt + 2))), (.int (sx X (i.toInt + 1))), (.ref 65)]) (lt_f rfl (Nat.le_of_ble_eq_true rfl)) rfl fun x31 e32 => ?_
  have e32t : x31.toInt = 4 := by rw [e32]; rfl
  refine x_i (pc1 := 1399) (ls1 := [some (.ref (am_B + 1)), some (.ref 0), some (.ref 65), some (.int i)]) (st1 := [(.ref (am_B + 1)), (.int (sx X (i.toInt + 3))), (.int (sx X (i.toInt + 2))), (.int (sx X (i.toInt + 1))), (.ref 65)]) (lt_f rfl (Nat.le_of_ble_eq_true rfl)) rfl fun x33 e34 => ?_
  have e34 : x33 = i + x31 := e34
  have e34t : x33.toInt = i.toInt + x31.toInt := by rw [e34]; exact n_add (by omega) (by omega)
  refine x_ia 1400 (lt_f rfl (Nat.le_of_ble_eq_true rfl)) rfl (by omega) (by omega) ?_
  rw [show x33.toInt = i.toInt + 4 by omega]
  show aw (some X) _ 193 _ (1400, [some (.ref (am_B + 1)), some (.ref 0), some (.ref 65), some (.int i)], [(.int (sx X (i.toInt + 4))), (.int (sx X (i.toInt + 3))), (.int (sx X (i.toInt + 2))), (.int (sx X (i.toInt + 1))), (.ref 65)]) w18
  refine x_cv (z := 179) (p := 65) (as := [(.int (sx X (i.toInt + 1))), (.int (sx X (i.toInt + 2))), (.int (sx X (i.toInt + 3))), (.int (sx X (i.toInt + 4)))]) (st1 := []) (Hw18.inv) 1403 (lt_f rfl (Nat.le_of_ble_eq_true rfl)) rfl rfl rfl rfl rfl rfl rfl (Nat.le_of_ble_eq_true rfl) (Nat.le_of_ble_eq_true rfl) ((tm_year (sx X (i.toInt + 1)) (sx X (i.toInt + 2)) (sx X (i.toInt + 3)) (sx X (i.toInt + 4)) Hw18).deep (by omega)) ?_
  rintro _ w36 ⟨⟨Hw36, w36l⟩, x35, rfl⟩
  refine ⟨w36l, ?_⟩
  show aw (some X) _ 193 _ (1403, [some (.ref (am_B + 1)), some (.ref 0), some (.ref 65), some (.int i)], [(.int x35)]) w36
  refine aw_step (f1 := (1404, [some (.ref (am_B + 1)), some (.ref 0), some (.ref 65), some (.int i)], [])) (w1 := w36) (lt_f rfl (Nat.le_of_ble_eq_true rfl)) rfl ?_
  refine aw_step (f1 := (1476, [some (.ref (am_B + 1)), some (.ref 0), some (.ref 65), some (.int i)], [])) (w1 := w36) (lt_f rfl (Nat.le_of_ble_eq_true rfl)) rfl ?_
  exact K w36 Hw36
set_option maxRecDepth 100000 in
theorem lk_33 {X : List Int32} {Q : Option Value → am_W → Prop} {w : am_W} {i : Int32} (h0 : 0 ≤ i.toInt) (h6 : i.toInt + 6 ≤ X.length) (hX : X.length ≤ 384) (H : TI w) (K : ∀ w1, TI w1 → aw (some X) 60 193 Q (1476, [some (.ref (am_B + 1)), some (.ref 0), some (.ref 65), some (.int i)], []) w1) : aw (some X) 60 193 Q (1407, [some (.ref (am_B + 1)), some (.ref 0), some (.ref 65), some (.int i)], []) w := by
  refine aw_step (f1 := (1408, [some (.ref (am_B + 1)), some (.ref 0), some (.ref 65), some (.int i)], [(.ref 0)])) (w1 := w) (lt_f rfl (Nat.le_of_ble_eq_true rfl)) rfl ?_
  refine aw_step (f1 := (1409, [some (.ref (am_B + 1)), some (.ref 0), some (.ref 65), some (.int i)], [(.ref (am_B + 1)), (.ref 0)])) (w1 := w) (lt_f rfl (Nat.le_of_ble_eq_true rfl)) rfl ?_
  refine aw_step (f1 := (1410, [some (.ref (am_B + 1)), some (.ref 0), some (.ref 65), some (.int i)], [(.int i), (.ref (am_B + 1)), (.ref 0)])) (w1 := w) (lt_f rfl (Nat.le_of_ble_eq_true rfl)) rfl ?_
  refine x_i (pc1 := 1411) (ls1 := [some (.ref (am_B + 1)), some (.ref 0), some (.ref 65), some (.int i)]) (st1 := [(.int i), (.ref (am_B + 1)), (.ref 0)]) (lt_f rfl (Nat.le_of_ble_eq_true rfl)) rfl fun x1 e2 => ?_
  have e2t : x1.toInt = 1 := by rw [e2]; rfl
  refine x_i (pc1 := 1412) (ls1 := [some (.ref (am_B + 1)), some (.ref 0), some (.ref 65), some (.int i)]) (st1 := [(.ref (am_B + 1)), (.ref 0)]) (lt_f rfl (Nat.le_of_ble_eq_true rfl)) rfl fun x3 e4 => ?_
  have e4 : x3 = i + x1 := e4
  have e4t : x3.toInt = i.toInt + x1.toInt := by rw [e4]; exact n_add (by omega) (by omega)
  refine x_ia 1413 (lt_f rfl (Nat.le_of_ble_eq_true rfl)) rfl (by omega) (by omega) ?_
  rw [show x3.toInt = i.toInt + 1 by omega]
  show aw (some X) _ 193 _ (1413, [some (.ref (am_B + 1)), some (.ref 0), some (.ref 65), some (.int i)], [(.int (sx X (i.toInt + 1))), (.ref 0)]) w
  refine x_cv (z := 93) (p := 0) (as := [(.int (sx X (i.toInt + 1)))]) (st1 := []) (H.inv) 1416 (lt_f rfl (Nat.le_of_ble_eq_true rfl)) rfl rfl rfl rfl rfl rfl rfl (Nat.le_of_ble_eq_true rfl) (Nat.le_of_ble_eq_true rfl) ((tc_image (sx X (i.toInt + 1)) H).deep (by omega)) ?_
  rintro _ w6 ⟨⟨Hw6, w6l⟩, x5, rfl, w6M⟩
  refine ⟨w6l, ?_⟩
  show aw (some X) _ 193 _ (1416, [some (.ref (am_B + 1)), some (.ref 0), some (.ref 65), some (.int i)], [(.int x5)]) w6
  refine aw_step (f1 := (1417, [some (.ref (am_B + 1)), some (.ref 0), some (.ref 65), some (.int i)], [])) (w1 := w6) (lt_f rfl (Nat.le_of_ble_eq_true rfl)) rfl ?_
  refine aw_step (f1 := (1418, [some (.ref (am_B + 1)), some (.ref 0), some (.ref 65), some (.int i)], [(.ref 65)])) (w1 := w6) (lt_f rfl (Nat.le_of_ble_eq_true rfl)) rfl ?_
  refine aw_step (f1 := (1419, [some (.ref (am_B + 1)), some (.ref 0), some (.ref 65), some (.int i)], [(.ref (am_B + 1)), (.ref 65)])) (w1 := w6) (lt_f rfl (Nat.le_of_ble_eq_true rfl)) rfl ?_
  refine aw_step (f1 := (1420, [some (.ref (am_B + 1)), some (.ref 0), some (.ref 65), some (.int i)], [(.int i), (.ref (am_B + 1)), (.ref 65)])) (w1 := w6) (lt_f rfl (Nat.le_of_ble_eq_true rfl)) rfl ?_
  refine x_i (pc1 := 1421) (ls1 := [some (.ref (am_B + 1)), some (.ref 0), some (.ref 65), some (.int i)]) (st1 := [(.int i), (.ref (am_B + 1)), (.ref 65)]) (lt_f rfl (Nat.le_of_ble_eq_true rfl)) rfl fun x7 e8 => ?_
  have e8t : x7.toInt = 1 := by rw [e8]; rfl
  refine x_i (pc1 := 1422) (ls1 := [some (.ref (am_B + 1)), some (.ref 0), some (.ref 65), some (.int i)]) (st1 := [(.ref (am_B + 1)), (.ref 65)]) (lt_f rfl (Nat.le_of_ble_eq_true rfl)) rfl fun x9 e10 => ?_
  have e10 : x9 = i + x7 := e10
  have e10t : x9.toInt = i.toInt + x7.toInt := by rw [e10]; exact n_add (by omega) (by omega)
  refine x_ia 1423 (lt_f rfl (Nat.le_of_ble_eq_true rfl)) rfl (by omega) (by omega) ?_
  rw [show x9.toInt = i.toInt + 1 by omega]
  show aw (some X) _ 193 _ (1423, [some (.ref (am_B + 1)), some (.ref 0), some (.ref 65), some (.int i)], [(.int (sx X (i.toInt + 1))), (.ref 65)]) w6
  refine x_cv (z := 183) (p := 65) (as := [(.int (sx X (i.toInt + 1)))]) (st1 := []) (Hw6) 1426 (lt_f rfl (Nat.le_of_ble_eq_true rfl)) rfl rfl rfl rfl rfl rfl rfl (Nat.le_of_ble_eq_true rfl) (Nat.le_of_ble_eq_true rfl) ((tm_image (sx X (i.toInt + 1)) (b := x5.toInt) (w6M)).deep (by omega)) ?_
  rintro _ w12 ⟨⟨Hw12, w12l⟩, x11, rfl, x11t⟩
  refine ⟨w12l, ?_⟩
  show aw (some X) _ 193 _ (1426, [some (.ref (am_B + 1)), some (.ref 0), some (.ref 65), some (.int i)], [(.int x11)]) w12
  refine aw_step (f1 := (1427, [some (.ref (am_B + 1)), some (.ref 0), some (.ref 65), some (.int i)], [])) (w1 := w12) (lt_f rfl (Nat.le_of_ble_eq_true rfl)) rfl ?_
  refine aw_step (f1 := (1476, [some (.ref (am_B + 1)), some (.ref 0), some (.ref 65), some (.int i)], [])) (w1 := w12) (lt_f rfl (Nat.le_of_ble_eq_true rfl)) rfl ?_
  exact K w12 Hw12
set_option maxRecDepth 100000 in
theorem lk_34 {X : List Int32} {Q : Option Value → am_W → Prop} {w : am_W} {i : Int32} (h0 : 0 ≤ i.toInt) (h6 : i.toInt + 6 ≤ X.length) (hX : X.length ≤ 384) (H : TI w) (K : ∀ w1, TI w1 → aw (some X) 60 193 Q (1476, [some (.ref (am_B + 1)), some (.ref 0), some (.ref 65), some (.int i)], []) w1) : aw (some X) 60 193 Q (1430, [some (.ref (am_B + 1)), some (.ref 0), some (.ref 65), some (.int i)], []) w := by
  refine aw_step (f1 := (1431, [some (.ref (am_B + 1)), some (.ref 0), some (.ref 65), some (.int i)], [(.ref 0)])) (w1 := w) (lt_f rfl (Nat.le_of_ble_eq_true rfl)) rfl ?_
  refine aw_step (f1 := (1432, [some (.ref (am_B + 1)), some (.ref 0), some (.ref 65), some (.int i)], [(.ref (am_B + 1)), (.ref 0)])) (w1 := w) (lt_f rfl (Nat.le_of_ble_eq_true rfl)) rfl ?_
  refine aw_step (f1 := (1433, [some (.ref (am_B + 1)), some (.ref 0), some (.ref 65), some (.int i)], [(.int i), (.ref (am_B + 1)), (.ref 0)])) (w1 := w) (lt_f rfl (Nat.le_of_ble_eq_true rfl)) rfl ?_
  refine x_i (pc1 := 1434) (ls1 := [some (.ref (am_B + 1)), some (.ref 0), some (.ref 65), some (.int i)]) (st1 := [(.int i), (.ref (am_B + 1)), (.ref 0)]) (lt_f rfl (Nat.le_of_ble_eq_true rfl)) rfl fun x1 e2 => ?_
  have e2t : x1.toInt = 1 := by rw [e2]; rfl
  refine x_i (pc1 := 1435) (ls1 := [some (.ref (am_B + 1)), some (.ref 0), some (.ref 65), some (.int i)]) (st1 := [(.ref (am_B + 1)), (.ref 0)]) (lt_f rfl (Nat.le_of_ble_eq_true rfl)) rfl fun x3 e4 => ?_
  have e4 : x3 = i + x1 := e4
  have e4t : x3.toInt = i.toInt + x1.toInt := by rw [e4]; exact n_add (by omega) (by omega)
  refine x_ia 1436 (lt_f rfl (Nat.le_of_ble_eq_true rfl)) rfl (by omega) (by omega) ?_
  rw [show x3.toInt = i.toInt + 1 by omega]
  show aw (some X) _ 193 _ (1436, [some (.ref (am_B + 1)), some (.ref 0), some (.ref 65), some (.int i)], [(.int (sx X (i.toInt + 1))), (.ref 0)]) w
  refine x_cv (z := 94) (p := 0) (as := [(.int (sx X (i.toInt + 1)))]) (st1 := []) (H.inv) 1439 (lt_f rfl (Nat.le_of_ble_eq_true rfl)) rfl rfl rfl rfl rfl rfl rfl (Nat.le_of_ble_eq_true rfl) (Nat.le_of_ble_eq_true rfl) ((tc_restore (sx X (i.toInt + 1)) H).deep (by omega)) ?_
  rintro _ w6 ⟨⟨Hw6, w6l⟩, x5, rfl, w6M⟩
  refine ⟨w6l, ?_⟩
  show aw (some X) _ 193 _ (1439, [some (.ref (am_B + 1)), some (.ref 0), some (.ref 65), some (.int i)], [(.int x5)]) w6
  refine aw_step (f1 := (1440, [some (.ref (am_B + 1)), some (.ref 0), some (.ref 65), some (.int i)], [])) (w1 := w6) (lt_f rfl (Nat.le_of_ble_eq_true rfl)) rfl ?_
  refine aw_step (f1 := (1441, [some (.ref (am_B + 1)), some (.ref 0), some (.ref 65), some (.int i)], [(.ref 65)])) (w1 := w6) (lt_f rfl (Nat.le_of_ble_eq_true rfl)) rfl ?_
  refine aw_step (f1 := (1442, [some (.ref (am_B + 1)), some (.ref 0), some (.ref 65), some (.int i)], [(.ref (am_B + 1)), (.ref 65)])) (w1 := w6) (lt_f rfl (Nat.le_of_ble_eq_true rfl)) rfl ?_
  refine aw_step (f1 := (1443, [some (.ref (am_B + 1)), some (.ref 0), some (.ref 65), some (.int i)], [(.int i), (.ref (am_B + 1)), (.ref 65)])) (w1 := w6) (lt_f rfl (Nat.le_of_ble_eq_true rfl)) rfl ?_
  refine x_i (pc1 := 1444) (ls1 := [some (.ref (am_B + 1)), some (.ref 0), some (.ref 65), some (.int i)]) (st1 := [(.int i), (.ref (am_B + 1)), (.ref 65)]) (lt_f rfl (Nat.le_of_ble_eq_true rfl)) rfl fun x7 e8 => ?_
  have e8t : x7.toInt = 1 := by rw [e8]; rfl
  refine x_i (pc1 := 1445) (ls1 := [some (.ref (am_B + 1)), some (.ref 0), some (.ref 65), some (.int i)]) (st1 := [(.ref (am_B + 1)), (.ref 65)]) (lt_f rfl (Nat.le_of_ble_eq_true rfl)) rfl fun x9 e10 => ?_
  have e10 : x9 = i + x7 := e10
  have e10t : x9.toInt = i.toInt + x7.toInt := by rw [e10]; exact n_add (by omega) (by omega)
  refine x_ia 1446 (lt_f rfl (Nat.le_of_ble_eq_true rfl)) rfl (by omega) (by omega) ?_
  rw [show x9.toInt = i.toInt + 1 by omega]
  show aw (some X) _ 193 _ (1446, [some (.ref (am_B + 1)), some (.ref 0), some (.ref 65), some (.int i)], [(.int (sx X (i.toInt + 1))), (.ref 65)]) w6
  refine x_cv (z := 184) (p := 65) (as := [(.int (sx X (i.toInt + 1)))]) (st1 := []) (Hw6) 1449 (lt_f rfl (Nat.le_of_ble_eq_true rfl)) rfl rfl rfl rfl rfl rfl rfl (Nat.le_of_ble_eq_true rfl) (Nat.le_of_ble_eq_true rfl) ((tm_restore (sx X (i.toInt + 1)) (b := x5.toInt) (w6M)).deep (by omega)) ?_
  rintro _ w12 ⟨⟨Hw12, w12l⟩, x11, rfl, x11t⟩
  refine ⟨w12l, ?_⟩
  show aw (some X) _ 193 _ (1449, [some (.ref (am_B + 1)), some (.ref 0), some (.ref 65), some (.int i)], [(.int x11)]) w12
  refine aw_step (f1 := (1450, [some (.ref (am_B + 1)), some (.ref 0), some (.ref 65), some (.int i)], [])) (w1 := w12) (lt_f rfl (Nat.le_of_ble_eq_true rfl)) rfl ?_
  refine aw_step (f1 := (1476, [some (.ref (am_B + 1)), some (.ref 0), some (.ref 65), some (.int i)], [])) (w1 := w12) (lt_f rfl (Nat.le_of_ble_eq_true rfl)) rfl ?_
  exact K w12 Hw12
set_option maxRecDepth 100000 in
theorem lk_35 {X : List Int32} {Q : Option Value → am_W → Prop} {w : am_W} {i : Int32} (h0 : 0 ≤ i.toInt) (h6 : i.toInt + 6 ≤ X.length) (hX : X.length ≤ 384) (H : TI w) (K : ∀ w1, TI w1 → aw (some X) 60 193 Q (1476, [some (.ref (am_B + 1)), some (.ref 0), some (.ref 65), some (.int i)], []) w1) : aw (some X) 60 193 Q (1453, [some (.ref (am_B + 1)), some (.ref 0), some (.ref 65), some (.int i)], []) w := by
  refine aw_step (f1 := (1454, [some (.ref (am_B + 1)), some (.ref 0), some (.ref 65), some (.int i)], [(.ref 0)])) (w1 := w) (lt_f rfl (Nat.le_of_ble_eq_true rfl)) rfl ?_
  refine aw_step (f1 := (1455, [some (.ref (am_B + 1)), some (.ref 0), some (.ref 65), some (.int i)], [(.ref (am_B + 1)), (.ref 0)])) (w1 := w) (lt_f rfl (Nat.le_of_ble_eq_true rfl)) rfl ?_
  refine aw_step (f1 := (1456, [some (.ref (am_B + 1)), some (.ref 0), some (.ref 65), some (.int i)], [(.int i), (.ref (am_B + 1)), (.ref 0)])) (w1 := w) (lt_f rfl (Nat.le_of_ble_eq_true rfl)) rfl ?_
  refine x_i (pc1 := 1457) (ls1 := [some (.ref (am_B + 1)), some (.ref 0), some (.ref 65), some (.int i)]) (st1 := [(.int i), (.ref (am_B + 1)), (.ref 0)]) (lt_f rfl (Nat.le_of_ble_eq_true rfl)) rfl fun x1 e2 => ?_
  have e2t : x1.toInt = 1 := by rw [e2]; rfl
  refine x_i (pc1 := 1458) (ls1 := [some (.ref (am_B + 1)), some (.ref 0), some (.ref 65), some (.int i)]) (st1 := [(.ref (am_B + 1)), (.ref 0)]) (lt_f rfl (Nat.le_of_ble_eq_true rfl)) rfl fun x3 e4 => ?_
  have e4 : x3 = i + x1 := e4
  have e4t : x3.toInt = i.toInt + x1.toInt := by rw [e4]; exact n_add (by omega) (by omega)
  refine x_ia 1459 (lt_f rfl (Nat.le_of_ble_eq_true rfl)) rfl (by omega) (by omega) ?_
  rw [show x3.toInt = i.toInt + 1 by omega]
  show aw (some X) _ 193 _ (1459, [some (.ref (am_B + 1)), some (.ref 0), some (.ref 65), some (.int i)], [(.int (sx X (i.toInt + 1))), (.ref 0)]) w
  refine x_cv (z := 95) (p := 0) (as := [(.int (sx X (i.toInt + 1)))]) (st1 := []) (H.inv) 1462 (lt_f rfl (Nat.le_of_ble_eq_true rfl)) rfl rfl rfl rfl rfl rfl rfl (Nat.le_of_ble_eq_true rfl) (Nat.le_of_ble_eq_true rfl) ((tc_told (sx X (i.toInt + 1)) H).deep (by omega)) ?_
  rintro _ w6 ⟨⟨Hw6, w6l⟩, x5, rfl, w6M⟩
  refine ⟨w6l, ?_⟩
  show aw (some X) _ 193 _ (1462, [some (.ref (am_B + 1)), some (.ref 0), some (.ref 65), some (.int i)], [(.int x5)]) w6
  refine aw_step (f1 := (1463, [some (.ref (am_B + 1)), some (.ref 0), some (.ref 65), some (.int i)], [(.ref 65), (.int x5)])) (w1 := w6) (lt_f rfl (Nat.le_of_ble_eq_true rfl)) rfl ?_
  refine aw_step (f1 := (1464, [some (.ref (am_B + 1)), some (.ref 0), some (.ref 65), some (.int i)], [(.ref (am_B + 1)), (.ref 65), (.int x5)])) (w1 := w6) (lt_f rfl (Nat.le_of_ble_eq_true rfl)) rfl ?_
  refine aw_step (f1 := (1465, [some (.ref (am_B + 1)), some (.ref 0), some (.ref 65), some (.int i)], [(.int i), (.ref (am_B + 1)), (.ref 65), (.int x5)])) (w1 := w6) (lt_f rfl (Nat.le_of_ble_eq_true rfl)) rfl ?_
  refine x_i (pc1 := 1466) (ls1 := [some (.ref (am_B + 1)), some (.ref 0), some (.ref 65), some (.int i)]) (st1 := [(.int i), (.ref (am_B + 1)), (.ref 65), (.int x5)]) (lt_f rfl (Nat.le_of_ble_eq_true rfl)) rfl fun x7 e8 => ?_
  have e8t : x7.toInt = 1 := by rw [e8]; rfl
  refine x_i (pc1 := 1467) (ls1 := [some (.ref (am_B + 1)), some (.ref 0), some (.ref 65), some (.int i)]) (st1 := [(.ref (am_B + 1)), (.ref 65), (.int x5)]) (lt_f rfl (Nat.le_of_ble_eq_true rfl)) rfl fun x9 e10 => ?_
  have e10 : x9 = i + x7 := e10
  have e10t : x9.toInt = i.toInt + x7.toInt := by rw [e10]; exact n_add (by omega) (by omega)
  refine x_ia 1468 (lt_f rfl (Nat.le_of_ble_eq_true rfl)) rfl (by omega) (by omega) ?_
  rw [show x9.toInt = i.toInt + 1 by omega]
  show aw (some X) _ 193 _ (1468, [some (.ref (am_B + 1)), some (.ref 0), some (.ref 65), some (.int i)], [(.int (sx X (i.toInt + 1))), (.ref 65), (.int x5)]) w6
  refine x_cv (z := 186) (p := 65) (as := [(.int (sx X (i.toInt + 1)))]) (st1 := [(.int x5)]) (Hw6) 1471 (lt_f rfl (Nat.le_of_ble_eq_true rfl)) rfl rfl rfl rfl rfl rfl rfl (Nat.le_of_ble_eq_true rfl) (Nat.le_of_ble_eq_true rfl) ((tm_told (sx X (i.toInt + 1)) (b := x5.toInt) (w6M)).deep (by omega)) ?_
  rintro _ w12 ⟨⟨Hw12, w12l⟩, x11, rfl, x11t⟩
  refine ⟨w12l, ?_⟩
  show aw (some X) _ 193 _ (1471, [some (.ref (am_B + 1)), some (.ref 0), some (.ref 65), some (.int i)], [(.int x11), (.int x5)]) w12
  refine x_ic 1476 1474 (lt_f rfl (Nat.le_of_ble_eq_true rfl)) rfl rfl (fun (h13 : x5.toInt = x11.toInt) => ?_) (fun (h13 : ¬ (x5.toInt = x11.toInt)) => ?_)
  · --
    exact K w12 Hw12
  · --
    refine x_i (pc1 := 1475) (ls1 := [some (.ref (am_B + 1)), some (.ref 0), some (.ref 65), some (.int i)]) (st1 := []) (lt_f rfl (Nat.le_of_ble_eq_true rfl)) rfl fun x14 e15 => ?_
    have e15t : x14.toInt = 0 := by rw [e15]; rfl
    exfalso; omega
theorem sw36 (x : Int) : (x < 0 ∨ 35 < x) ∨ x = 0 ∨ x = 1 ∨ x = 2 ∨ x = 3 ∨ x = 4 ∨ x = 5 ∨ x = 6 ∨ x = 7 ∨ x = 8 ∨ x = 9 ∨ x = 10 ∨ x = 11 ∨ x = 12 ∨ x = 13 ∨ x = 14 ∨ x = 15 ∨ x = 16 ∨ x = 17 ∨ x = 18 ∨ x = 19 ∨ x = 20 ∨ x = 21 ∨ x = 22 ∨ x = 23 ∨ x = 24 ∨ x = 25 ∨ x = 26 ∨ x = 27 ∨ x = 28 ∨ x = 29 ∨ x = 30 ∨ x = 31 ∨ x = 32 ∨ x = 33 ∨ x = 34 ∨ x = 35 := by omega
noncomputable def QE (r : Option Value) (w : am_W) : Prop := r = some (.int 1) ∧ TI w
set_option maxRecDepth 100000 in
theorem lawL {X : List Int32} (hX : X.length ≤ 384) : ∀ (m : Nat) (w : am_W) (i : Int32), ((X.length : Int) - i.toInt).toNat < m → 0 ≤ i.toInt → i.toInt ≤ X.length → TI w → aw (some X) 60 193 QE (18, [some (.ref (am_B + 1)), some (.ref 0), some (.ref 65), some (.int i)], []) w := by
  intro m
  induction m with
  | zero => intro w i p; omega
  | succ m ih =>
    intro w i p1 h0 p3 H
    refine aw_step (f1 := (19, [some (.ref (am_B + 1)), some (.ref 0), some (.ref 65), some (.int i)], [(.int i)])) (w1 := w) (lt_f rfl (Nat.le_of_ble_eq_true rfl)) rfl ?_
    refine aw_step (f1 := (20, [some (.ref (am_B + 1)), some (.ref 0), some (.ref 65), some (.int i)], [(.ref (am_B + 1)), (.int i)])) (w1 := w) (lt_f rfl (Nat.le_of_ble_eq_true rfl)) rfl ?_
    refine x_len 21 rfl rfl H.inv.1 (by omega) fun n hn => ?_
    refine x_i (pc1 := 23) (ls1 := [some (.ref (am_B + 1)), some (.ref 0), some (.ref 65), some (.int i)]) (st1 := [(.int n), (.int i)]) (lt_f rfl (Nat.le_of_ble_eq_true rfl)) rfl fun x1 e2 => ?_
    have e2t : x1.toInt = 6 := by rw [e2]; rfl
    refine x_i (pc1 := 24) (ls1 := [some (.ref (am_B + 1)), some (.ref 0), some (.ref 65), some (.int i)]) (st1 := [(.int i)]) (lt_f rfl (Nat.le_of_ble_eq_true rfl)) rfl fun x3 e4 => ?_
    have e4 : x3 = n - x1 := e4
    have e4t : x3.toInt = n.toInt - x1.toInt := by rw [e4]; exact n_sub (by omega) (by omega)
    refine x_ic 1482 27 (lt_f rfl (Nat.le_of_ble_eq_true rfl)) rfl rfl (fun (h5 : x3.toInt < i.toInt) => ?_) (fun (h5 : ¬ (x3.toInt < i.toInt)) => ?_)
    · --
      refine x_i (pc1 := 1483) (ls1 := [some (.ref (am_B + 1)), some (.ref 0), some (.ref 65), some (.int i)]) (st1 := []) (lt_f rfl (Nat.le_of_ble_eq_true rfl)) rfl fun x6 e7 => ?_
      have e7t : x6.toInt = 1 := by rw [e7]; rfl
      refine aw_ret (v := some (.int x6)) rfl (am_retz (by omega)) ?_
      exact ⟨by rw [show x6 = 1 from n_1 (by omega)], H⟩
    · --
      refine aw_step (f1 := (28, [some (.ref (am_B + 1)), some (.ref 0), some (.ref 65), some (.int i)], [(.ref (am_B + 1))])) (w1 := w) (lt_f rfl (Nat.le_of_ble_eq_true rfl)) rfl ?_
      refine aw_step (f1 := (29, [some (.ref (am_B + 1)), some (.ref 0), some (.ref 65), some (.int i)], [(.int i), (.ref (am_B + 1))])) (w1 := w) (lt_f rfl (Nat.le_of_ble_eq_true rfl)) rfl ?_
      refine x_ia 30 (lt_f rfl (Nat.le_of_ble_eq_true rfl)) rfl (by omega) (by omega) ?_
      show aw (some X) _ 193 _ (30, [some (.ref (am_B + 1)), some (.ref 0), some (.ref 65), some (.int i)], [(.int (sx X i.toInt))]) w
      refine x_i (pc1 := 32) (ls1 := [some (.ref (am_B + 1)), some (.ref 0), some (.ref 65), some (.int i)]) (st1 := [(.int (sx X i.toInt))]) (lt_f rfl (Nat.le_of_ble_eq_true rfl)) rfl fun x8 e9 => ?_
      have e9t : x8.toInt = 63 := by rw [e9]; rfl
      refine x_i (pc1 := 33) (ls1 := [some (.ref (am_B + 1)), some (.ref 0), some (.ref 65), some (.int i)]) (st1 := []) (lt_f rfl (Nat.le_of_ble_eq_true rfl)) rfl fun x10 e11 => ?_
      have e11 : x10 = (sx X i.toInt) &&& x8 := e11
      have K : ∀ w1, TI w1 → aw (some X) 60 193 QE (1476, [some (.ref (am_B + 1)), some (.ref 0), some (.ref 65), some (.int i)], []) w1 := by
        intro w1 H1
        refine aw_step (f1 := (1479, [some (.ref (am_B + 1)), some (.ref 0), some (.ref 65), some (.int (i + Int32.ofInt 6))], [])) (w1 := w1) (lt_f rfl (Nat.le_of_ble_eq_true rfl)) rfl ?_
        obtain ⟨zx1, zx1e⟩ : ∃ z, z = (i + Int32.ofInt 6) := ⟨_, rfl⟩
        have zx1t : zx1.toInt = i.toInt + (6) := by rw [zx1e]; exact n_add (y := Int32.ofInt (6)) (by show _ ≤ _ + (6 : Int); omega) (by show _ + (6 : Int) ≤ _; omega)
        rw [← zx1e]
        refine aw_step (f1 := (18, [some (.ref (am_B + 1)), some (.ref 0), some (.ref 65), some (.int zx1)], [])) (w1 := w1) (lt_f rfl (Nat.le_of_ble_eq_true rfl)) rfl ?_
        exact ih w1 zx1 (by omega) (by omega) (by omega) H1
      rcases sw36 x10.toInt with h | h | h | h | h | h | h | h | h | h | h | h | h | h | h | h | h | h | h | h | h | h | h | h | h | h | h | h | h | h | h | h | h | h | h | h | h
      · exact x_swd 1476 rfl rfl h (K w H)
      · exact x_swj (j := 0) 192 rfl (by omega) (by omega) (by omega) rfl rfl (lk_0 h0 (by omega) hX H K)
      · exact x_swj (j := 1) 225 rfl (by omega) (by omega) (by omega) rfl rfl (lk_1 h0 (by omega) hX H K)
      · exact x_swj (j := 2) 248 rfl (by omega) (by omega) (by omega) rfl rfl (lk_2 h0 (by omega) hX H K)
      · exact x_swj (j := 3) 261 rfl (by omega) (by omega) (by omega) rfl rfl (lk_3 h0 (by omega) hX H K)
      · exact x_swj (j := 4) 284 rfl (by omega) (by omega) (by omega) rfl rfl (lk_4 h0 (by omega) hX H K)
      · exact x_swj (j := 5) 297 rfl (by omega) (by omega) (by omega) rfl rfl (lk_5 h0 (by omega) hX H K)
      · exact x_swj (j := 6) 320 rfl (by omega) (by omega) (by omega) rfl rfl (lk_6 h0 (by omega) hX H K)
      · exact x_swj (j := 7) 343 rfl (by omega) (by omega) (by omega) rfl rfl (lk_7 h0 (by omega) hX H K)
      · exact x_swj (j := 8) 392 rfl (by omega) (by omega) (by omega) rfl rfl (lk_8 h0 (by omega) hX H K)
      · exact x_swj (j := 9) 435 rfl (by omega) (by omega) (by omega) rfl rfl (lk_9 h0 (by omega) hX H K)
      · exact x_swj (j := 10) 468 rfl (by omega) (by omega) (by omega) rfl rfl (lk_10 h0 (by omega) hX H K)
      · exact x_swj (j := 11) 491 rfl (by omega) (by omega) (by omega) rfl rfl (lk_11 h0 (by omega) hX H K)
      · exact x_swj (j := 12) 524 rfl (by omega) (by omega) (by omega) rfl rfl (lk_12 h0 (by omega) hX H K)
      · exact x_swj (j := 13) 547 rfl (by omega) (by omega) (by omega) rfl rfl (lk_13 h0 (by omega) hX H K)
      · exact x_swj (j := 14) 600 rfl (by omega) (by omega) (by omega) rfl rfl (lk_14 h0 (by omega) hX H K)
      · exact x_swj (j := 15) 633 rfl (by omega) (by omega) (by omega) rfl rfl (lk_15 h0 (by omega) hX H K)
      · exact x_swj (j := 16) 676 rfl (by omega) (by omega) (by omega) rfl rfl (lk_16 h0 (by omega) hX H K)
      · exact x_swj (j := 17) 739 rfl (by omega) (by omega) (by omega) rfl rfl (lk_17 h0 (by omega) hX H K)
      · exact x_swj (j := 18) 782 rfl (by omega) (by omega) (by omega) rfl rfl (lk_18 h0 (by omega) hX H K)
      · exact x_swj (j := 19) 855 rfl (by omega) (by omega) (by omega) rfl rfl (lk_19 h0 (by omega) hX H K)
      · exact x_swj (j := 20) 898 rfl (by omega) (by omega) (by omega) rfl rfl (lk_20 h0 (by omega) hX H K)
      · exact x_swj (j := 21) 921 rfl (by omega) (by omega) (by omega) rfl rfl (lk_21 h0 (by omega) hX H K)
      · exact x_swj (j := 22) 944 rfl (by omega) (by omega) (by omega) rfl rfl (lk_22 h0 (by omega) hX H K)
      · exact x_swj (j := 23) 1017 rfl (by omega) (by omega) (by omega) rfl rfl (lk_23 h0 (by omega) hX H K)
      · exact x_swj (j := 24) 1050 rfl (by omega) (by omega) (by omega) rfl rfl (lk_24 h0 (by omega) hX H K)
      · exact x_swj (j := 25) 1063 rfl (by omega) (by omega) (by omega) rfl rfl (lk_25 h0 (by omega) hX H K)
      · exact x_swj (j := 26) 1076 rfl (by omega) (by omega) (by omega) rfl rfl (lk_26 h0 (by omega) hX H K)
      · exact x_swj (j := 27) 1099 rfl (by omega) (by omega) (by omega) rfl rfl (lk_27 h0 (by omega) hX H K)
      · exact x_swj (j := 28) 1142 rfl (by omega) (by omega) (by omega) rfl rfl (lk_28 h0 (by omega) hX H K)
      · exact x_swj (j := 29) 1195 rfl (by omega) (by omega) (by omega) rfl rfl (lk_29 h0 (by omega) hX H K)
      · exact x_swj (j := 30) 1258 rfl (by omega) (by omega) (by omega) rfl rfl (lk_30 h0 (by omega) hX H K)
      · exact x_swj (j := 31) 1321 rfl (by omega) (by omega) (by omega) rfl rfl (lk_31 h0 (by omega) hX H K)
      · exact x_swj (j := 32) 1354 rfl (by omega) (by omega) (by omega) rfl rfl (lk_32 h0 (by omega) hX H K)
      · exact x_swj (j := 33) 1407 rfl (by omega) (by omega) (by omega) rfl rfl (lk_33 h0 (by omega) hX H K)
      · exact x_swj (j := 34) 1430 rfl (by omega) (by omega) (by omega) rfl rfl (lk_34 h0 (by omega) hX H K)
      · exact x_swj (j := 35) 1453 rfl (by omega) (by omega) (by omega) rfl rfl (lk_35 h0 (by omega) hX H K)
theorem am_ok1' : (am_okW am_W1 && am_okL am_W1.length [some (.ref (am_B + 1)), some (.ref 0), none, none] && am_okS am_W1.length [] && Nat.blt am_W1.length am_B) = true := by decide +kernel
theorem am_len1 : am_W1.length = 65 := by decide +kernel
theorem am_n10 {X : Option (List Int32)} : am_ins X (am_mi 193).1 (am_mi 193).2.2.1 (am_mi 193).2.2.2 (.new 10) 8 [some (.ref (am_B + 1)), some (.ref 0), none, none] [] am_W1 = some (.inl ((11, [some (.ref (am_B + 1)), some (.ref 0), none, none], [.ref 65]), am_W1 ++ [am_obj 10])) := by
  have hz : am_find (am_newT (am_mi 193).1) 10 = some 10 := rfl
  show am_new (am_mi 193).1 10 (8 + 3) [some (.ref (am_B + 1)), some (.ref 0), none, none] [] am_W1 = _
  unfold am_new
  rw [hz]
  simp only
  rw [am_ok1']
  show am_nx 11 _ [Value.ref am_W1.length] (am_W1 ++ [am_obj 10]) = _
  rw [am_len1]
  rfl
set_option maxRecDepth 100000 in
theorem law0 {X : List Int32} (hX : X.length ≤ 384) : aw (some X) 60 193 QE (0, am_entry 193 [.ref (am_B + 1)], []) [] := by
  show aw (some X) (59 + 1) 193 _ (0, [some (.ref (am_B + 1)), none, none, none], []) []
  refine aw_step (f1 := (3, [some (.ref (am_B + 1)), none, none, none], [.ref 0])) (w1 := [am_obj 9]) rfl rfl ?_
  refine aw_step (f1 := (4, [some (.ref (am_B + 1)), none, none, none], [.ref 0, .ref 0])) (w1 := [am_obj 9]) rfl rfl ?_
  refine aw_grow (z := 59) (as := [.ref 0]) (pc1 := 7) (ls1 := [some (.ref (am_B + 1)), none, none, none]) (st1 := [.ref 0]) (w2 := am_W1) rfl rfl rfl (((am_sB_s am_s1).deep (by omega)).lift) rfl ?_
  refine aw_step (f1 := (8, [some (.ref (am_B + 1)), some (.ref 0), none, none], [])) (w1 := am_W1) rfl rfl ?_
  refine aw_step (f1 := (11, [some (.ref (am_B + 1)), some (.ref 0), none, none], [.ref 65])) (w1 := am_W1 ++ [am_obj 10]) rfl am_n10 ?_
  refine aw_step (f1 := (12, [some (.ref (am_B + 1)), some (.ref 0), none, none], [.ref 65, .ref 65])) (w1 := am_W1 ++ [am_obj 10]) rfl rfl ?_
  refine aw_grow (z := 107) (as := [.ref 65]) (pc1 := 15) (ls1 := [some (.ref (am_B + 1)), some (.ref 0), none, none]) (st1 := [.ref 65]) (w2 := am_W0) rfl rfl rfl (((am_sB_s am_s2).deep (by omega)).lift) rfl ?_
  refine aw_step (f1 := (16, [some (.ref (am_B + 1)), some (.ref 0), some (.ref 65), none], [])) (w1 := am_W0) rfl rfl ?_
  refine aw_step (f1 := (17, [some (.ref (am_B + 1)), some (.ref 0), some (.ref 65), none], [.int 0])) (w1 := am_W0) rfl rfl ?_
  refine aw_step (f1 := (18, [some (.ref (am_B + 1)), some (.ref 0), some (.ref 65), some (.int 0)], [])) (w1 := am_W0) rfl rfl ?_
  exact lawL hX (X.length + 1) am_W0 0 (by show ((X.length : Int) - 0).toNat < _; omega) (by decide) (by show (0 : Int) ≤ _; omega) W0_TI
theorem sz_all {w : am_W} {c : Nat} : (∀ q ∈ w, am_szc q ≤ c) → am_sz w ≤ c * w.length := by
  induction w with
  | nil => intro _; exact Nat.zero_le _
  | cons q r ih =>
    intro h
    have h1 := h q (List.mem_cons_self)
    have h2 := ih (fun p hp => h p (List.mem_cons_of_mem _ hp))
    unfold am_sz
    rw [List.length_cons, Nat.mul_add]
    omega
noncomputable def ab_cs (t : ab_C) : Nat := match t with
  | .inl (_, n, _, _) => n
  | .inr (_, ts) => ts.length
theorem W_sz {w : am_W} (I : ab_inv ab_TT ab_sets w) (k14 : K14 w) : am_sz w ≤ 2000 * w.length := by
  refine sz_all fun q hq => ?_
  obtain ⟨a, ha⟩ := List.getElem?_of_mem hq
  have hl : a < ab_TT.length := by rw [← I.1]; exact (List.getElem?_eq_some_iff.mp ha).1
  have ht := List.getElem?_eq_getElem hl
  obtain ⟨q1, h1, h2⟩ := I.2 a _ ht
  rw [ha] at h1
  cases h1
  have hb : ∀ t ∈ ab_TT, ab_cs t ≤ 2000 := by decide +kernel
  have hm := hb _ (List.getElem_mem hl)
  generalize ab_TT[a] = t at *
  cases t with
  | inl z =>
    obtain ⟨kd, n, lo, hi⟩ := z
    rcases h2 with ⟨-, l, rfl, f1, -⟩ | ⟨-, -, -, l, rfl, f1, -⟩ | ⟨-, l, rfl, f1, -⟩ | h9
    · show l.length ≤ _; rw [f1]; exact hm
    · show l.length ≤ _; rw [f1]; exact hm
    · show l.length ≤ _; rw [f1]; exact hm
    · have e14 : a = 14 := by
        have : ∀ j, j < 89 → (match ab_TT[j]? with | some (.inl (9, _, _, _)) => true | _ => false) = true → j = 14 := by decide +kernel
        have l89 : ab_TT.length = 89 := by decide +kernel
        subst h9
        exact this a (by omega) (by rw [ht]; rfl)
      subst e14
      rw [show w[14]? = _ from k14] at ha
      cases ha
      decide
  | inr z =>
    obtain ⟨ci, ts⟩ := z
    obtain ⟨fs, rfl, f1, -⟩ := h2
    show fs.length ≤ _
    rw [f1]; exact hm
theorem am_all : am_goal 384 := by
  intro X hX
  obtain ⟨n, r, w', h1, rfl, H⟩ := law0 hX
  have hl : w'.length = 89 := H.inv.1
  have hs := W_sz H.inv H.1.2.1
  exact ⟨n, w', h1, by omega, by omega⟩
