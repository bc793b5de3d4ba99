set_option maxRecDepth 100000 in
theorem ok_decL_0 : ((al_L_law.drop 0).take 90).all (am_dq 193) = true := fs_gok (by decide +kernel)
set_option maxRecDepth 100000 in
theorem ok_decL_1 : ((al_L_law.drop 90).take 90).all (am_dq 193) = true := fs_gok (by decide +kernel)
set_option maxRecDepth 100000 in
theorem ok_decL_2 : ((al_L_law.drop 180).take 90).all (am_dq 193) = true := fs_gok (by decide +kernel)
set_option maxRecDepth 100000 in
theorem ok_decL_3 : ((al_L_law.drop 270).take 90).all (am_dq 193) = true := fs_gok (by decide +kernel)
set_option maxRecDepth 100000 in
theorem ok_decL_4 : ((al_L_law.drop 360).take 90).all (am_dq 193) = true := fs_gok (by decide +kernel)
set_option maxRecDepth 100000 in
theorem ok_decL_5 : ((al_L_law.drop 450).take 90).all (am_dq 193) = true := fs_gok (by decide +kernel)
set_option maxRecDepth 100000 in
theorem ok_decL_6 : ((al_L_law.drop 540).take 90).all (am_dq 193) = true := fs_gok (by decide +kernel)
set_option maxRecDepth 100000 in
theorem ok_decL_7 : ((al_L_law.drop 630).take 90).all (am_dq 193) = true := fs_gok (by decide +kernel)
set_option maxRecDepth 100000 in
theorem ok_decL_8 : ((al_L_law.drop 720).take 90).all (am_dq 193) = true := fs_gok (by decide +kernel)
set_option maxRecDepth 100000 in
theorem ok_decL_9 : ((al_L_law.drop 810).take 90).all (am_dq 193) = true := fs_gok (by decide +kernel)
set_option maxRecDepth 100000 in
theorem ok_decL_10 : ((al_L_law.drop 900).take 90).all (am_dq 193) = true := fs_gok (by decide +kernel)
set_option maxRecDepth 100000 in
theorem ok_decL_11 : ((al_L_law.drop 990).take 90).all (am_dq 193) = true := fs_gok (by decide +kernel)
theorem am_allsplit {α : Type} {p : α → Bool} {l : List α} (n m : Nat) (h1 : ((l.drop n).take m).all p = true) (h2 : (l.drop (n + m)).all p = true) : (l.drop n).all p = true := by
  rw [← List.take_append_drop m (l.drop n), List.all_append, h1, List.drop_drop, h2]; rfl
theorem ok_decL : al_L_law.all (am_dq 193) = true := by
  have h12 : (al_L_law.drop 1080).all (am_dq 193) = true := by rw [List.drop_eq_nil_of_le (by decide +kernel)]; rfl
  have h11 := am_allsplit 990 90 ok_decL_11 h12
  have h10 := am_allsplit 900 90 ok_decL_10 h11
  have h9 := am_allsplit 810 90 ok_decL_9 h10
  have h8 := am_allsplit 720 90 ok_decL_8 h9
  have h7 := am_allsplit 630 90 ok_decL_7 h8
  have h6 := am_allsplit 540 90 ok_decL_6 h7
  have h5 := am_allsplit 450 90 ok_decL_5 h6
  have h4 := am_allsplit 360 90 ok_decL_4 h5
  have h3 := am_allsplit 270 90 ok_decL_3 h4
  have h2 := am_allsplit 180 90 ok_decL_2 h3
  have h1 := am_allsplit 90 90 ok_decL_1 h2
  have h0 := am_allsplit 0 90 ok_decL_0 h1
  exact h0
theorem ok_dec {k : Nat} (hk : k < 194) : (am_code k).all (am_dq k) = true := by
  rcases Nat.lt_or_ge k 18 with g0 | g0
  · exact List.all_eq_true.mp ok_dec_0 k (List.mem_range'_1.mpr ⟨by omega, by omega⟩)
  rcases Nat.lt_or_ge k 32 with g1 | g1
  · exact List.all_eq_true.mp ok_dec_1 k (List.mem_range'_1.mpr ⟨by omega, by omega⟩)
  rcases Nat.lt_or_ge k 51 with g2 | g2
  · exact List.all_eq_true.mp ok_dec_2 k (List.mem_range'_1.mpr ⟨by omega, by omega⟩)
  rcases Nat.lt_or_ge k 65 with g3 | g3
  · exact List.all_eq_true.mp ok_dec_3 k (List.mem_range'_1.mpr ⟨by omega, by omega⟩)
  rcases Nat.lt_or_ge k 81 with g4 | g4
  · exact List.all_eq_true.mp ok_dec_4 k (List.mem_range'_1.mpr ⟨by omega, by omega⟩)
  rcases Nat.lt_or_ge k 94 with g5 | g5
  · exact List.all_eq_true.mp ok_dec_5 k (List.mem_range'_1.mpr ⟨by omega, by omega⟩)
  rcases Nat.lt_or_ge k 119 with g6 | g6
  · exact List.all_eq_true.mp ok_dec_6 k (List.mem_range'_1.mpr ⟨by omega, by omega⟩)
  rcases Nat.lt_or_ge k 137 with g7 | g7
  · exact List.all_eq_true.mp ok_dec_7 k (List.mem_range'_1.mpr ⟨by omega, by omega⟩)
  rcases Nat.lt_or_ge k 149 with g8 | g8
  · exact List.all_eq_true.mp ok_dec_8 k (List.mem_range'_1.mpr ⟨by omega, by omega⟩)
  rcases Nat.lt_or_ge k 157 with g9 | g9
  · exact List.all_eq_true.mp ok_dec_9 k (List.mem_range'_1.mpr ⟨by omega, by omega⟩)
  rcases Nat.lt_or_ge k 169 with g10 | g10
  · exact List.all_eq_true.mp ok_dec_10 k (List.mem_range'_1.mpr ⟨by omega, by omega⟩)
  rcases Nat.lt_or_ge k 179 with g11 | g11
  · exact List.all_eq_true.mp ok_dec_11 k (List.mem_range'_1.mpr ⟨by omega, by omega⟩)
  rcases Nat.lt_or_ge k 193 with g12 | g12
  · exact List.all_eq_true.mp ok_dec_12 k (List.mem_range'_1.mpr ⟨by omega, by omega⟩)
  have : k = 193 := by omega
  subst this
  exact ok_decL
