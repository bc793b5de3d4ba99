/-! ===== methods kept in by the checker ===== -/
/-- X9_within -/
noncomputable def mc0 : ab_M := ([(0, (-2147483648), 2147483647), (0, 0, 0), (0, 3, 3)], [(some (0, 0, 0), [(0, (-2147483648), 2147483647), (0, 0, 0), (0, 3, 3)]), (some (0, 1, 1), [(0, 0, 3), (0, 0, 0), (0, 3, 3)])])
set_option maxRecDepth 100000 in
theorem kc0 : ab_ok ab_TT ab_sets ab_WR 1 102 mc0 := ab_chk_ok (S := ab_SL []) (nds := []) (mc := []) (fuel := 3000) ab_mc0 (by decide) (by decide) ab_SLn (by decide +kernel)
/-- X9_isBoots -/
noncomputable def mc1 : ab_M := ([(0, (-2147483648), 2147483647)], [(some (0, 0, 0), [(0, (-2147483648), 2147483647)]), (some (0, 1, 1), [(0, 0, 3)])])
set_option maxRecDepth 100000 in
theorem kc1 : ab_ok ab_TT ab_sets ab_WR 2 103 mc1 := ab_chk_ok (S := ab_SL [(102, mc0)]) (nds := []) (mc := []) (fuel := 3000) ab_mc0 (by decide) (by decide) (ab_SLc kc0 (by decide) ab_SLn) (by decide +kernel)
/-- X9_has -/
noncomputable def mc2 : ab_M := ([(1, (-9223372036854775808), 9223372036854775807), (0, (-2147483648), 2147483647)], [(some (0, 0, 0), [(1, (-9223372036854775808), 9223372036854775807), (0, (-2147483648), 2147483647)]), (some (0, 1, 1), [(1, (-9223372036854775808), 9223372036854775807), (0, (-2147483648), 2147483647)])])
set_option maxRecDepth 100000 in
theorem kc2 : ab_ok ab_TT ab_sets ab_WR 1 105 mc2 := ab_chk_ok (S := ab_SL []) (nds := []) (mc := []) (fuel := 3000) ab_mc0 (by decide) (by decide) ab_SLn (by decide +kernel)
/-- X9_within -/
noncomputable def mc3 : ab_M := ([(0, (-2147483648), 2147483647), (0, 0, 0), (0, 0, 35)], [(some (0, 0, 0), [(0, (-2147483648), 2147483647), (0, 0, 0), (0, 0, 35)]), (some (0, 1, 1), [(0, 0, 35), (0, 0, 0), (0, 0, 35)])])
set_option maxRecDepth 100000 in
theorem kc3 : ab_ok ab_TT ab_sets ab_WR 1 102 mc3 := ab_chk_ok (S := ab_SL []) (nds := []) (mc := []) (fuel := 3000) ab_mc0 (by decide) (by decide) ab_SLn (by decide +kernel)
/-- X6_size -/
noncomputable def mc4 : ab_M := ([(2, 3, 0)], [(some (0, 1, 36), [(2, 3, 0)])])
set_option maxRecDepth 100000 in
theorem kc4 : ab_ok ab_TT ab_sets ab_WR 1 38 mc4 := ab_chk_ok (S := ab_SL []) (nds := []) (mc := []) (fuel := 3000) ab_mc0 (by decide) (by decide) ab_SLn (by decide +kernel)
/-- X6_hasCell -/
noncomputable def mc5 : ab_M := ([(2, 3, 0), (0, (-2147483648), 2147483647)], [(some (0, 0, 0), [(2, 3, 0), (0, (-2147483648), 2147483647)]), (some (0, 1, 1), [(2, 3, 0), (0, 0, 35)])])
set_option maxRecDepth 100000 in
theorem kc5 : ab_ok ab_TT ab_sets ab_WR 2 39 mc5 := ab_chk_ok (S := ab_SL [(38, mc4), (102, mc3)]) (nds := []) (mc := []) (fuel := 3000) ab_mc0 (by decide) (by decide) (ab_SLc kc4 (by decide) (ab_SLc kc3 (by decide) ab_SLn)) (by decide +kernel)
/-- X6_isDry -/
noncomputable def mc6 : ab_M := ([(2, 3, 0), (0, (-2147483648), 2147483647)], [(some (0, 0, 0), [(2, 3, 0), (0, (-2147483648), 2147483647)]), (some (0, 1, 1), [(2, 3, 0), (0, 0, 35)])])
set_option maxRecDepth 100000 in
theorem kc6 : ab_ok ab_TT ab_sets ab_WR 3 40 mc6 := ab_chk_ok (S := ab_SL [(39, mc5), (105, mc2)]) (nds := []) (mc := []) (fuel := 3000) ab_mc0 (by decide) (by decide) (ab_SLc kc5 (by decide) (ab_SLc kc2 (by decide) ab_SLn)) (by decide +kernel)
/-- X6_at -/
noncomputable def mc7 : ab_M := ([(2, 3, 0), (0, 0, 5), (0, (-2147483648), 2147483647)], [(some (1, (-9223372036854775808), 9223372036854775807), [(2, 3, 0), (0, 0, 5), (0, (-2147483648), 2147483647)])])
set_option maxRecDepth 100000 in
theorem kc7 : ab_ok ab_TT ab_sets ab_WR 1 46 mc7 := ab_chk_ok (S := ab_SL []) (nds := []) (mc := []) (fuel := 3000) ab_mc0 (by decide) (by decide) ab_SLn (by decide +kernel)
/-- X6_reach -/
noncomputable def mc8 : ab_M := ([(2, 3, 0), (0, (-2147483648), 2147483647), (0, 0, 35)], [(some (1, (-9223372036854775808), 9223372036854775807), [(2, 3, 0), (0, (-2147483648), 2147483647), (0, 0, 35)])])
set_option maxRecDepth 100000 in
theorem kc8 : ab_ok ab_TT ab_sets ab_WR 2 44 mc8 := ab_chk_ok (S := ab_SL [(46, mc7)]) (nds := [(5, ([(0, 0), ((-2147483648), 2147483647), (0, 35), ((-9223372036854775808), 9223372036854775807), (0, 6)], [some (2, 3, 0), some (0, 1, 0), some (0, 2, 0), some (1, 3, 0), none, some (0, 4, 0), none, none], [], [(2, 3, 0), (0, 1, 0), (0, 2, 0)]), [(5, (-2))], 13)]) (mc := []) (fuel := 3000) ab_mc0 (by decide) (by decide) (ab_SLc kc7 (by decide) ab_SLn) (by decide +kernel)
/-- X9_leads -/
noncomputable def mc9 : ab_M := ([(2, 0, 0), (0, (-2147483648), 2147483647), (0, (-2147483648), 2147483647)], [(some (1, (-1000000000000000001), (-1000000000000000001)), [(2, 0, 0), (0, (-2147483648), 2147483647), (0, (-2147483648), 2147483647)]), (some (1, (-9223372036854775808), 9223372036854775807), [(2, 0, 0), (0, 0, 3), (0, 0, 35)])])
set_option maxRecDepth 100000 in
theorem kc9 : ab_ok ab_TT ab_sets ab_WR 4 71 mc9 := ab_chk_ok (S := ab_SL [(40, mc6), (44, mc8), (103, mc1)]) (nds := []) (mc := []) (fuel := 3000) ab_mc0 (by decide) (by decide) (ab_SLc kc6 (by decide) (ab_SLc kc8 (by decide) (ab_SLc kc1 (by decide) ab_SLn))) (by decide +kernel)
/-- X9_strides -/
noncomputable def mc10 : ab_M := ([(2, 0, 0), (0, (-2147483648), 2147483647)], [(some (0, (-1), (-1)), [(2, 0, 0), (0, (-2147483648), 2147483647)]), (some (0, (-2147483648), 2147483647), [(2, 0, 0), (0, 0, 3)])])
set_option maxRecDepth 100000 in
theorem kc10 : ab_ok ab_TT ab_sets ab_WR 3 72 mc10 := ab_chk_ok (S := ab_SL [(103, mc1)]) (nds := [(14, ([(0, 0), (0, 3), ((-2147483648), 2147483647), ((-7), 8)], [some (2, 0, 0), some (0, 1, 0), some (0, 2, 0), some (0, 3, 0), none], [], [(2, 0, 0), (0, 1, 0)]), [(3, (-34))], 305), (24, ([(0, 0), (0, 3), ((-2147483648), 2147483647), ((-7), 7), ((-7), 8)], [some (2, 0, 0), some (0, 1, 0), some (0, 2, 0), some (0, 3, 0), some (0, 4, 0)], [], [(2, 0, 0), (0, 1, 0)]), [(3, (-34)), (4, (-2))], 289)]) (mc := []) (fuel := 3000) ab_mc0 (by decide) (by decide) (ab_SLc kc1 (by decide) ab_SLn) (by decide +kernel)
/-- X9_bit -/
noncomputable def mc11 : ab_M := ([(0, (-2147483648), 2147483647)], [(some (1, (-9223372036854775808), 9223372036854775807), [(0, (-2147483648), 2147483647)])])
set_option maxRecDepth 100000 in
theorem kc11 : ab_ok ab_TT ab_sets ab_WR 1 104 mc11 := ab_chk_ok (S := ab_SL []) (nds := []) (mc := []) (fuel := 3000) ab_mc0 (by decide) (by decide) ab_SLn (by decide +kernel)
/-- J7_fill_53178 -/
noncomputable def mc12 : ab_M := ([(2, 19, 0), (0, (-6), (-6))], [(none, [(2, 19, 0), (0, (-6), (-6))])])
set_option maxRecDepth 100000 in
theorem kc12 : ab_ok ab_TT ab_sets ab_WR 1 192 mc12 := ab_chk_ok (S := ab_SL []) (nds := [(5, ([(0, 0), ((-6), (-6)), (0, 36), (36, 36)], [some (2, 19, 0), some (0, 1, 0), some (0, 2, 0), some (0, 3, 0)], [], [(2, 19, 0), (0, 1, 0)]), [(2, (-2))], 73)]) (mc := []) (fuel := 3000) ab_mc0 (by decide) (by decide) ab_SLn (by decide +kernel)
/-- X4_mark -/
noncomputable def mc13 : ab_M := ([(2, 18, 0), (2, 3, 0), (1, (-9223372036854775808), 9223372036854775807), (0, 0, 36)], [(none, [(2, 18, 0), (2, 3, 0), (1, (-9223372036854775808), 9223372036854775807), (0, 0, 36)])])
set_option maxRecDepth 100000 in
theorem kc13 : ab_ok ab_TT ab_sets ab_WR 2 24 mc13 := ab_chk_ok (S := ab_SL [(38, mc4), (105, mc2)]) (nds := [(3, ([(0, 0), ((-9223372036854775808), 9223372036854775807), (0, 36), (0, 36)], [some (2, 18, 0), some (2, 3, 0), some (1, 1, 0), none, some (0, 2, 0), some (0, 3, 0)], [], [(2, 18, 0), (2, 3, 0), (1, 1, 0), (0, 2, 0)]), [(5, (-2))], 73)]) (mc := []) (fuel := 3000) ab_mc0 (by decide) (by decide) (ab_SLc kc4 (by decide) (ab_SLc kc2 (by decide) ab_SLn)) (by decide +kernel)
/-- X6_reachFromAll -/
noncomputable def mc14 : ab_M := ([(2, 3, 0), (0, 1, 50), (1, (-9223372036854775808), 9223372036854775807)], [(some (1, (-9223372036854775808), 9223372036854775807), [(2, 3, 0), (0, 1, 50), (1, (-9223372036854775808), 9223372036854775807)])])
set_option maxRecDepth 100000 in
theorem kc14 : ab_ok ab_TT ab_sets ab_WR 3 45 mc14 := ab_chk_ok (S := ab_SL [(38, mc4), (44, mc8), (105, mc2)]) (nds := [(6, ([(0, 0), (1, 50), ((-9223372036854775808), 9223372036854775807), ((-9223372036854775808), 9223372036854775807), (0, 36)], [some (2, 3, 0), some (0, 1, 0), some (1, 2, 0), none, some (1, 3, 0), none, some (0, 4, 0)], [], [(2, 3, 0), (0, 1, 0), (1, 2, 0)]), [(6, (-2))], 73)]) (mc := []) (fuel := 3000) ab_mc0 (by decide) (by decide) (ab_SLc kc4 (by decide) (ab_SLc kc8 (by decide) (ab_SLc kc2 (by decide) ab_SLn))) (by decide +kernel)
/-- X4_nearby -/
noncomputable def mc15 : ab_M := ([(2, 18, 0), (2, 3, 0), (0, 1, 50), (0, 0, 35), (0, 0, 36)], [(some (1, (-9223372036854775808), 9223372036854775807), [(2, 18, 0), (2, 3, 0), (0, 1, 50), (0, 0, 35), (0, 0, 36)])])
set_option maxRecDepth 100000 in
theorem kc15 : ab_ok ab_TT ab_sets ab_WR 4 23 mc15 := ab_chk_ok (S := ab_SL [(24, mc13), (45, mc14), (104, mc11), (192, mc12)]) (nds := [(22, ([(0, 0), (1, 50), (0, 35), (0, 36), ((-9223372036854775808), 9223372036854775807), ((-9223372036854775808), 9223372036854775807), (0, 37)], [some (2, 18, 0), some (2, 3, 0), some (0, 1, 0), some (0, 2, 0), some (0, 3, 0), some (1, 4, 0), none, some (1, 5, 0), none, some (0, 6, 0)], [], [(2, 18, 0), (2, 3, 0), (0, 1, 0), (0, 2, 0), (0, 3, 0)]), [(9, (-2))], 75)]) (mc := []) (fuel := 3000) ab_mc0 (by decide) (by decide) (ab_SLc kc13 (by decide) (ab_SLc kc14 (by decide) (ab_SLc kc11 (by decide) (ab_SLc kc12 (by decide) ab_SLn)))) (by decide +kernel)
/-- X4_measure -/
noncomputable def mc16 : ab_M := ([(2, 18, 0), (2, 3, 0), (0, 1, 50), (0, 0, 35)], [(some (1, (-9223372036854775808), 9223372036854775807), [(2, 18, 0), (2, 3, 0), (0, 1, 50), (0, 0, 35)])])
set_option maxRecDepth 100000 in
theorem kc16 : ab_ok ab_TT ab_sets ab_WR 5 22 mc16 := ab_chk_ok (S := ab_SL [(23, mc15)]) (nds := []) (mc := []) (fuel := 3000) ab_mc0 (by decide) (by decide) (ab_SLc kc15 (by decide) ab_SLn) (by decide +kernel)
/-- X4_nextTowards -/
noncomputable def mc17 : ab_M := ([(2, 18, 0), (1, (-9223372036854775808), 9223372036854775807), (0, (-2147483648), 2147483647), (0, 0, 35)], [(some (0, 0, 35), [(2, 18, 0), (1, (-9223372036854775808), 9223372036854775807), (0, (-2147483648), 2147483647), (0, 0, 35)])])
set_option maxRecDepth 100000 in
theorem kc17 : ab_ok ab_TT ab_sets ab_WR 2 26 mc17 := ab_chk_ok (S := ab_SL [(105, mc2)]) (nds := [(3, ([(0, 0), ((-9223372036854775808), 9223372036854775807), ((-2147483648), 2147483647), (0, 35), (0, 36)], [some (2, 18, 0), some (1, 1, 0), none, some (0, 2, 0), some (0, 3, 0), some (0, 4, 0)], [], [(2, 18, 0), (1, 1, 0), (0, 2, 0), (0, 3, 0)]), [(5, (-2))], 73)]) (mc := []) (fuel := 3000) ab_mc0 (by decide) (by decide) (ab_SLc kc2 (by decide) ab_SLn) (by decide +kernel)
/-- X4_follow -/
noncomputable def mc18 : ab_M := ([(2, 18, 0), (2, 3, 0), (0, 1, 50), (0, 0, 35), (0, 1, 2147483647)], [(some (0, 0, 35), [(2, 18, 0), (2, 3, 0), (0, 1, 50), (0, 0, 35), (0, 1, 2147483647)])])
set_option maxRecDepth 100000 in
theorem kc18 : ab_ok ab_TT ab_sets ab_WR 3 25 mc18 := ab_chk_ok (S := ab_SL [(26, mc17), (44, mc8)]) (nds := [(6, ([(0, 0), (1, 50), (0, 35), (0, 35), (1, 2147483647), (0, 36)], [some (2, 18, 0), some (2, 3, 0), some (0, 1, 0), some (0, 2, 0), some (0, 4, 0), some (0, 3, 0), some (0, 5, 0)], [], [(2, 18, 0), (2, 3, 0), (0, 1, 0), (0, 2, 0), (0, 4, 0)]), [(6, (-2))], 73)]) (mc := []) (fuel := 3000) ab_mc0 (by decide) (by decide) (ab_SLc kc17 (by decide) (ab_SLc kc8 (by decide) ab_SLn)) (by decide +kernel)
/-- X9_canTravel -/
noncomputable def mc19 : ab_M := ([(2, 0, 0), (0, (-2147483648), 2147483647), (0, (-2147483648), 2147483647), (0, (-2147483648), 2147483647)], [(some (0, 0, 0), [(2, 0, 0), (0, (-2147483648), 2147483647), (0, (-2147483648), 2147483647), (0, (-2147483648), 2147483647)]), (some (0, 1, 1), [(2, 0, 0), (0, 0, 3), (0, 0, 35), (0, 0, 35)])])
set_option maxRecDepth 100000 in
theorem kc19 : ab_ok ab_TT ab_sets ab_WR 4 97 mc19 := ab_chk_ok (S := ab_SL [(40, mc6), (103, mc1)]) (nds := []) (mc := []) (fuel := 3000) ab_mc0 (by decide) (by decide) (ab_SLc kc6 (by decide) (ab_SLc kc1 (by decide) ab_SLn)) (by decide +kernel)
/-- X9_far -/
noncomputable def mc20 : ab_M := ([(2, 0, 0), (0, (-2147483648), 2147483647), (0, (-2147483648), 2147483647), (0, (-2147483648), 2147483647), (0, (-2147483648), 2147483647)], [(some (0, (-1), (-1)), [(2, 0, 0), (0, (-2147483648), 2147483647), (0, (-2147483648), 2147483647), (0, (-2147483648), 2147483647), (0, (-2147483648), 2147483647)]), (some (0, (-6), (-6)), [(2, 0, 0), (0, 0, 3), (0, 0, 35), (0, 0, 35), (0, (-2147483648), 2147483647)]), (some (0, (-2147483648), 2147483647), [(2, 0, 0), (0, 0, 3), (0, 0, 35), (0, 0, 35), (0, (-1), 2147483646)])])
set_option maxRecDepth 100000 in
theorem kc20 : ab_ok ab_TT ab_sets ab_WR 6 73 mc20 := ab_chk_ok (S := ab_SL [(22, mc16), (25, mc18), (97, mc19)]) (nds := []) (mc := []) (fuel := 3000) ab_mc0 (by decide) (by decide) (ab_SLc kc16 (by decide) (ab_SLc kc18 (by decide) (ab_SLc kc19 (by decide) ab_SLn))) (by decide +kernel)
/-- X9_reached -/
noncomputable def mc21 : ab_M := ([(2, 0, 0), (0, (-2147483648), 2147483647), (0, (-2147483648), 2147483647)], [(some (1, (-1000000000000000001), (-1000000000000000001)), [(2, 0, 0), (0, (-2147483648), 2147483647), (0, (-2147483648), 2147483647)]), (some (1, (-9223372036854775808), 9223372036854775807), [(2, 0, 0), (0, 0, 3), (0, 0, 35)])])
set_option maxRecDepth 100000 in
theorem kc21 : ab_ok ab_TT ab_sets ab_WR 6 74 mc21 := ab_chk_ok (S := ab_SL [(22, mc16), (97, mc19)]) (nds := []) (mc := []) (fuel := 3000) ab_mc0 (by decide) (by decide) (ab_SLc kc16 (by decide) (ab_SLc kc19 (by decide) ab_SLn)) (by decide +kernel)
/-- X7_price -/
noncomputable def mc22 : ab_M := ([(2, 21, 0), (0, 1, 1000), (0, 0, 1), (0, 0, 9), (0, 0, 1)], [(none, [(2, 21, 0), (0, 1, 1000), (0, 0, 1), (0, 0, 9), (0, 0, 1)])])
set_option maxRecDepth 100000 in
theorem kc22 : ab_ok ab_TT ab_sets ab_WR 1 49 mc22 := ab_chk_ok (S := ab_SL []) (nds := []) (mc := []) (fuel := 3000) ab_mc0 (by decide) (by decide) ab_SLn (by decide +kernel)
/-- X7_wear -/
noncomputable def mc23 : ab_M := ([(2, 21, 0), (0, 1, 50), (0, 0, 50)], [(none, [(2, 21, 0), (0, 1, 50), (0, 0, 50)])])
set_option maxRecDepth 100000 in
theorem kc23 : ab_ok ab_TT ab_sets ab_WR 1 50 mc23 := ab_chk_ok (S := ab_SL []) (nds := []) (mc := []) (fuel := 3000) ab_mc0 (by decide) (by decide) ab_SLn (by decide +kernel)
/-- J7_fill_53178 -/
noncomputable def mc24 : ab_M := ([(2, 22, 0), (0, 1000000, 1000000)], [(none, [(2, 22, 0), (0, 1000000, 1000000)])])
set_option maxRecDepth 100000 in
theorem kc24 : ab_ok ab_TT ab_sets ab_WR 1 192 mc24 := ab_chk_ok (S := ab_SL []) (nds := [(5, ([(0, 0), (1000000, 1000000), (0, 72), (72, 72)], [some (2, 22, 0), some (0, 1, 0), some (0, 2, 0), some (0, 3, 0)], [], [(2, 22, 0), (0, 1, 0)]), [(2, (-2))], 145)]) (mc := []) (fuel := 3000) ab_mc0 (by decide) (by decide) ab_SLn (by decide +kernel)
/-- J7_fill_53178 -/
noncomputable def mc25 : ab_M := ([(2, 23, 0), (0, 0, 0)], [(none, [(2, 23, 0), (0, 0, 0)])])
set_option maxRecDepth 100000 in
theorem kc25 : ab_ok ab_TT ab_sets ab_WR 1 192 mc25 := ab_chk_ok (S := ab_SL []) (nds := [(5, ([(0, 0), (0, 0), (0, 72), (72, 72)], [some (2, 23, 0), some (0, 1, 0), some (0, 2, 0), some (0, 3, 0)], [], [(2, 23, 0), (0, 1, 0)]), [(2, (-2))], 145)]) (mc := []) (fuel := 3000) ab_mc0 (by decide) (by decide) ab_SLn (by decide +kernel)
/-- X7_nearest -/
noncomputable def mc26 : ab_M := ([(2, 21, 0)], [(some (0, (-6), (-6)), [(2, 21, 0)]), (some (0, 0, 71), [(2, 21, 0)])])
set_option maxRecDepth 100000 in
theorem kc26 : ab_ok ab_TT ab_sets ab_WR 1 52 mc26 := ab_chk_ok (S := ab_SL []) (nds := [(5, ([(0, 0), (0, 71), (1, 72), (0, 1)], [some (2, 21, 0), some (0, 1, 0), some (0, 2, 0), some (0, 3, 0)], [], [(2, 21, 0)]), [(2, (-2))], 145), (5, ([(0, 0), ((-6), (-6)), (0, 72)], [some (2, 21, 0), some (0, 1, 0), some (0, 2, 0), none], [], [(2, 21, 0)]), [(2, (-2))], 145)]) (mc := []) (fuel := 3000) ab_mc0 (by decide) (by decide) ab_SLn (by decide +kernel)
/-- X7_offer -/
noncomputable def mc27 : ab_M := ([(2, 21, 0), (0, 0, 71), (0, (-2147483648), 2147483647)], [(none, [(2, 21, 0), (0, 0, 71), (0, (-2147483648), 2147483647)])])
set_option maxRecDepth 100000 in
theorem kc27 : ab_ok ab_TT ab_sets ab_WR 1 54 mc27 := ab_chk_ok (S := ab_SL []) (nds := []) (mc := []) (fuel := 3000) ab_mc0 (by decide) (by decide) ab_SLn (by decide +kernel)
/-- X7_goOn -/
noncomputable def mc28 : ab_M := ([(2, 21, 0), (2, 3, 0), (0, 0, 71)], [(none, [(2, 21, 0), (2, 3, 0), (0, 0, 71)])])
set_option maxRecDepth 100000 in
theorem kc28 : ab_ok ab_TT ab_sets ab_WR 3 53 mc28 := ab_chk_ok (S := ab_SL [(38, mc4), (44, mc8), (54, mc27), (105, mc2)]) (nds := [(61, ([(0, 0), (0, 71), (0, 1), (0, 36), (0, 36), (0, 35), ((-9223372036854775808), 9223372036854775807), ((-9223372036854775808), 9223372036854775807)], [some (2, 21, 0), some (2, 3, 0), some (0, 1, 0), some (0, 2, 0), some (0, 4, 0), some (0, 5, 0), some (1, 6, 0), none, some (1, 7, 0), none, some (0, 3, 0), none], [], [(2, 21, 0), (2, 3, 0), (0, 1, 0)]), [(10, (-2))], 73)]) (mc := []) (fuel := 3000) ab_mc0 (by decide) (by decide) (ab_SLc kc4 (by decide) (ab_SLc kc8 (by decide) (ab_SLc kc27 (by decide) (ab_SLc kc2 (by decide) ab_SLn)))) (by decide +kernel)
/-- X7_cheapest -/
noncomputable def mc29 : ab_M := ([(2, 21, 0), (2, 3, 0), (0, 0, 35), (0, 0, 35)], [(some (0, (-6), (-6)), [(2, 21, 0), (2, 3, 0), (0, 0, 35), (0, 0, 35)]), (some (0, (-2147483648), 2147483647), [(2, 21, 0), (2, 3, 0), (0, 0, 35), (0, 0, 35)])])
set_option maxRecDepth 100000 in
theorem kc29 : ab_ok ab_TT ab_sets ab_WR 4 51 mc29 := ab_chk_ok (S := ab_SL [(52, mc26), (53, mc28), (192, mc24), (192, mc25)]) (nds := [(27, ([(0, 0), (0, 35), (0, 35), (0, 72)], [some (2, 21, 0), some (2, 3, 0), some (0, 1, 0), some (0, 2, 0), some (0, 3, 0), none], [], [(2, 21, 0), (2, 3, 0), (0, 1, 0), (0, 2, 0)]), [(4, (-2))], 145)]) (mc := []) (fuel := 3000) ab_mc0 (by decide) (by decide) (ab_SLc kc26 (by decide) (ab_SLc kc28 (by decide) (ab_SLc kc24 (by decide) (ab_SLc kc25 (by decide) ab_SLn)))) (by decide +kernel)
/-- X9_worn -/
noncomputable def mc30 : ab_M := ([(2, 0, 0), (0, (-2147483648), 2147483647), (0, (-2147483648), 2147483647), (0, (-2147483648), 2147483647)], [(some (0, (-1), (-1)), [(2, 0, 0), (0, (-2147483648), 2147483647), (0, (-2147483648), 2147483647), (0, (-2147483648), 2147483647)]), (some (0, (-6), (-6)), [(2, 0, 0), (0, 0, 3), (0, 0, 35), (0, 0, 35)]), (some (0, (-2147483648), 2147483647), [(2, 0, 0), (0, 0, 3), (0, 0, 35), (0, 0, 35)])])
set_option maxRecDepth 100000 in
theorem kc30 : ab_ok ab_TT ab_sets ab_WR 5 75 mc30 := ab_chk_ok (S := ab_SL [(49, mc22), (50, mc23), (51, mc29), (97, mc19)]) (nds := []) (mc := []) (fuel := 3000) ab_mc0 (by decide) (by decide) (ab_SLc kc22 (by decide) (ab_SLc kc23 (by decide) (ab_SLc kc29 (by decide) (ab_SLc kc19 (by decide) ab_SLn)))) (by decide +kernel)
/-- X9_within -/
noncomputable def mc31 : ab_M := ([(0, (-2147483648), 2147483647), (0, 0, 0), (0, 1, 1)], [(some (0, 0, 0), [(0, (-2147483648), 2147483647), (0, 0, 0), (0, 1, 1)]), (some (0, 1, 1), [(0, 0, 1), (0, 0, 0), (0, 1, 1)])])
set_option maxRecDepth 100000 in
theorem kc31 : ab_ok ab_TT ab_sets ab_WR 1 102 mc31 := ab_chk_ok (S := ab_SL []) (nds := []) (mc := []) (fuel := 3000) ab_mc0 (by decide) (by decide) ab_SLn (by decide +kernel)
/-- X9_changed -/
noncomputable def mc32 : ab_M := ([(2, 0, 0), (0, (-2147483648), 2147483647), (0, (-2147483648), 2147483647), (0, (-2147483648), 2147483647), (0, (-2147483648), 2147483647), (0, (-2147483648), 2147483647)], [(some (0, (-1), (-1)), [(2, 0, 0), (0, (-2147483648), 2147483647), (0, (-2147483648), 2147483647), (0, (-2147483648), 2147483647), (0, (-2147483648), 2147483647), (0, (-2147483648), 2147483647)]), (some (0, (-2), (-2)), [(2, 0, 0), (0, 0, 3), (0, 0, 3), (0, 0, 35), (0, 0, 35), (0, (-2147483648), 2147483647)]), (some (0, (-6), (-6)), [(2, 0, 0), (0, 0, 3), (0, 0, 3), (0, 0, 35), (0, 0, 35), (0, 0, 1)]), (some (0, (-2147483648), 2147483647), [(2, 0, 0), (0, 0, 3), (0, 0, 3), (0, 0, 35), (0, 0, 35), (0, 0, 1)])])
set_option maxRecDepth 100000 in
theorem kc32 : ab_ok ab_TT ab_sets ab_WR 5 76 mc32 := ab_chk_ok (S := ab_SL [(49, mc22), (50, mc23), (51, mc29), (97, mc19), (102, mc31), (103, mc1)]) (nds := []) (mc := []) (fuel := 3000) ab_mc0 (by decide) (by decide) (ab_SLc kc22 (by decide) (ab_SLc kc23 (by decide) (ab_SLc kc29 (by decide) (ab_SLc kc19 (by decide) (ab_SLc kc31 (by decide) (ab_SLc kc1 (by decide) ab_SLn)))))) (by decide +kernel)
/-- X9_time -/
noncomputable def mc33 : ab_M := ([(2, 0, 0), (0, (-2147483648), 2147483647), (0, (-2147483648), 2147483647), (0, (-2147483648), 2147483647)], [(some (0, (-1), (-1)), [(2, 0, 0), (0, (-2147483648), 2147483647), (0, (-2147483648), 2147483647), (0, (-2147483648), 2147483647)]), (some (0, (-6), (-6)), [(2, 0, 0), (0, 0, 3), (0, 0, 35), (0, 0, 35)]), (some (0, (-2147483648), 2147483647), [(2, 0, 0), (0, 0, 3), (0, 0, 35), (0, 0, 35)])])
set_option maxRecDepth 100000 in
theorem kc33 : ab_ok ab_TT ab_sets ab_WR 5 77 mc33 := ab_chk_ok (S := ab_SL [(49, mc22), (50, mc23), (51, mc29), (97, mc19)]) (nds := []) (mc := []) (fuel := 3000) ab_mc0 (by decide) (by decide) (ab_SLc kc22 (by decide) (ab_SLc kc23 (by decide) (ab_SLc kc29 (by decide) (ab_SLc kc19 (by decide) ab_SLn)))) (by decide +kernel)
/-- J13_bitCount_95d88 -/
noncomputable def mc34 : ab_M := ([(1, (-9223372036854775808), 9223372036854775807)], [(some (0, 0, 127), [(1, (-9223372036854775808), 9223372036854775807)])])
set_option maxRecDepth 100000 in
theorem kc34 : ab_ok ab_TT ab_sets ab_WR 1 188 mc34 := ab_chk_ok (S := ab_SL []) (nds := []) (mc := []) (fuel := 3000) ab_mc0 (by decide) (by decide) ab_SLn (by decide +kernel)
/-- X5_keepIfShorter -/
noncomputable def mc35 : ab_M := ([(2, 25, 0), (0, (-2147483648), 2147483647)], [(none, [(2, 25, 0), (0, (-2147483648), 2147483647)])])
set_option maxRecDepth 100000 in
theorem kc35 : ab_ok ab_TT ab_sets ab_WR 1 32 mc35 := ab_chk_ok (S := ab_SL []) (nds := []) (mc := []) (fuel := 3000) ab_mc0 (by decide) (by decide) ab_SLn (by decide +kernel)
/-- X5_tryOrders -/
noncomputable def mc36 : ab_M := ([(2, 25, 0), (0, 5, 5), (0, 0, 4), (0, (-2147483648), 2147483647), (0, (-2147483648), 2147483647)], [(none, [(2, 25, 0), (0, 5, 5), (0, 0, 4), (0, (-2147483648), 2147483647), (0, (-2147483648), 2147483647)])])
set_option maxRecDepth 100000 in
theorem kc36 : ab_ok ab_TT ab_sets ab_WR 2 31 mc36 := ab_chk_ok (S := ab_SL [(32, mc35)]) (nds := []) (mc := []) (fuel := 3000) ab_mc0 (by decide) (by decide) (ab_SLc kc35 (by decide) ab_SLn) (by decide +kernel)
/-- X5_tryOrders -/
noncomputable def mc37 : ab_M := ([(2, 25, 0), (0, 4, 4), (0, 0, 4), (0, (-2147483648), 2147483647), (0, (-2147483648), 2147483647)], [(none, [(2, 25, 0), (0, 4, 4), (0, 0, 4), (0, (-2147483648), 2147483647), (0, (-2147483648), 2147483647)])])
set_option maxRecDepth 100000 in
theorem kc37 : ab_ok ab_TT ab_sets ab_WR 3 31 mc37 := ab_chk_ok (S := ab_SL [(31, mc36), (32, mc35)]) (nds := [(38, ([(0, 0), (4, 4), (0, 4), ((-2147483648), 2147483647), ((-2147483648), 2147483647), (0, 5)], [some (2, 25, 0), some (0, 1, 0), some (0, 2, 0), some (0, 3, 0), some (0, 4, 0), some (0, 5, 0), none], [], [(2, 25, 0), (0, 1, 0), (0, 2, 0), (0, 3, 0), (0, 4, 0)]), [(5, (-2))], 11)]) (mc := []) (fuel := 3000) ab_mc0 (by decide) (by decide) (ab_SLc kc36 (by decide) (ab_SLc kc35 (by decide) ab_SLn)) (by decide +kernel)
/-- X5_tryOrders -/
noncomputable def mc38 : ab_M := ([(2, 25, 0), (0, 3, 3), (0, 0, 4), (0, (-2147483648), 2147483647), (0, (-2147483648), 2147483647)], [(none, [(2, 25, 0), (0, 3, 3), (0, 0, 4), (0, (-2147483648), 2147483647), (0, (-2147483648), 2147483647)])])
set_option maxRecDepth 100000 in
theorem kc38 : ab_ok ab_TT ab_sets ab_WR 4 31 mc38 := ab_chk_ok (S := ab_SL [(31, mc37), (32, mc35)]) (nds := [(38, ([(0, 0), (3, 3), (0, 4), ((-2147483648), 2147483647), ((-2147483648), 2147483647), (0, 5)], [some (2, 25, 0), some (0, 1, 0), some (0, 2, 0), some (0, 3, 0), some (0, 4, 0), some (0, 5, 0), none], [], [(2, 25, 0), (0, 1, 0), (0, 2, 0), (0, 3, 0), (0, 4, 0)]), [(5, (-2))], 11)]) (mc := []) (fuel := 3000) ab_mc0 (by decide) (by decide) (ab_SLc kc37 (by decide) (ab_SLc kc35 (by decide) ab_SLn)) (by decide +kernel)
/-- X5_tryOrders -/
noncomputable def mc39 : ab_M := ([(2, 25, 0), (0, 2, 2), (0, 0, 4), (0, (-2147483648), 2147483647), (0, (-2147483648), 2147483647)], [(none, [(2, 25, 0), (0, 2, 2), (0, 0, 4), (0, (-2147483648), 2147483647), (0, (-2147483648), 2147483647)])])
set_option maxRecDepth 100000 in
theorem kc39 : ab_ok ab_TT ab_sets ab_WR 5 31 mc39 := ab_chk_ok (S := ab_SL [(31, mc38), (32, mc35)]) (nds := [(38, ([(0, 0), (2, 2), (0, 4), ((-2147483648), 2147483647), ((-2147483648), 2147483647), (0, 5)], [some (2, 25, 0), some (0, 1, 0), some (0, 2, 0), some (0, 3, 0), some (0, 4, 0), some (0, 5, 0), none], [], [(2, 25, 0), (0, 1, 0), (0, 2, 0), (0, 3, 0), (0, 4, 0)]), [(5, (-2))], 11)]) (mc := []) (fuel := 3000) ab_mc0 (by decide) (by decide) (ab_SLc kc38 (by decide) (ab_SLc kc35 (by decide) ab_SLn)) (by decide +kernel)
/-- X5_tryOrders -/
noncomputable def mc40 : ab_M := ([(2, 25, 0), (0, 1, 1), (0, 0, 4), (0, (-2147483648), 2147483647), (0, (-2147483648), 2147483647)], [(none, [(2, 25, 0), (0, 1, 1), (0, 0, 4), (0, (-2147483648), 2147483647), (0, (-2147483648), 2147483647)])])
set_option maxRecDepth 100000 in
theorem kc40 : ab_ok ab_TT ab_sets ab_WR 6 31 mc40 := ab_chk_ok (S := ab_SL [(31, mc39), (32, mc35)]) (nds := [(38, ([(0, 0), (1, 1), (0, 4), ((-2147483648), 2147483647), ((-2147483648), 2147483647), (0, 5)], [some (2, 25, 0), some (0, 1, 0), some (0, 2, 0), some (0, 3, 0), some (0, 4, 0), some (0, 5, 0), none], [], [(2, 25, 0), (0, 1, 0), (0, 2, 0), (0, 3, 0), (0, 4, 0)]), [(5, (-2))], 11)]) (mc := []) (fuel := 3000) ab_mc0 (by decide) (by decide) (ab_SLc kc39 (by decide) (ab_SLc kc35 (by decide) ab_SLn)) (by decide +kernel)
/-- X5_tryOrders -/
noncomputable def mc41 : ab_M := ([(2, 25, 0), (0, 0, 0), (0, 0, 5), (0, 0, 0), (0, 0, 0)], [(none, [(2, 25, 0), (0, 0, 0), (0, 0, 5), (0, 0, 0), (0, 0, 0)])])
set_option maxRecDepth 100000 in
theorem kc41 : ab_ok ab_TT ab_sets ab_WR 7 31 mc41 := ab_chk_ok (S := ab_SL [(31, mc40), (32, mc35)]) (nds := [(38, ([(0, 0), (0, 0), (0, 5), (0, 0), (0, 0), (0, 5)], [some (2, 25, 0), some (0, 1, 0), some (0, 2, 0), some (0, 3, 0), some (0, 4, 0), some (0, 5, 0), none], [], [(2, 25, 0), (0, 1, 0), (0, 2, 0), (0, 3, 0), (0, 4, 0)]), [(5, (-2))], 11)]) (mc := []) (fuel := 3000) ab_mc0 (by decide) (by decide) (ab_SLc kc40 (by decide) (ab_SLc kc35 (by decide) ab_SLn)) (by decide +kernel)
/-- X5_plan -/
noncomputable def mc42 : ab_M := ([(2, 25, 0), (2, 3, 0), (2, 18, 0), (0, 1, 50), (1, (-9223372036854775808), 9223372036854775807)], [(none, [(2, 25, 0), (2, 3, 0), (2, 18, 0), (0, 1, 50), (1, (-9223372036854775808), 9223372036854775807)])])
set_option maxRecDepth 100000 in
theorem kc42 : ab_ok ab_TT ab_sets ab_WR 8 30 mc42 := ab_chk_ok (S := ab_SL [(22, mc16), (31, mc41), (38, mc4), (105, mc2)]) (nds := [(8, ([(0, 0), (1, 50), ((-9223372036854775808), 9223372036854775807), (0, 36)], [some (2, 25, 0), some (2, 3, 0), some (2, 18, 0), some (0, 1, 0), some (1, 2, 0), none, some (0, 3, 0), none, none, none], [], [(2, 25, 0), (2, 3, 0), (2, 18, 0), (0, 1, 0), (1, 2, 0)]), [(6, (-2))], 185), (84, ([(0, 0), (1, 50), ((-9223372036854775808), 9223372036854775807), (0, 6)], [some (2, 25, 0), some (2, 3, 0), some (2, 18, 0), some (0, 1, 0), some (1, 2, 0), none, some (0, 3, 0), none, none, none], [], [(2, 25, 0), (2, 3, 0), (2, 18, 0), (0, 1, 0), (1, 2, 0)]), [(6, (-16))], 111), (126, ([(0, 0), (1, 50), ((-9223372036854775808), 9223372036854775807), (0, 5), ((-9223372036854775808), 9223372036854775807), (0, 6)], [some (2, 25, 0), some (2, 3, 0), some (2, 18, 0), some (0, 1, 0), some (1, 2, 0), none, some (0, 3, 0), some (1, 4, 0), none, some (0, 5, 0)], [], [(2, 25, 0), (2, 3, 0), (2, 18, 0), (0, 1, 0), (1, 2, 0)]), [(6, (-16)), (9, (-2))], 109)]) (mc := [(27, mc_plan)]) (fuel := 3000) mc_planH (by decide) (by decide) (ab_SLc kc16 (by decide) (ab_SLc kc41 (by decide) (ab_SLc kc4 (by decide) (ab_SLc kc2 (by decide) ab_SLn)))) (by decide +kernel)
/-- X9_errands -/
noncomputable def mc43 : ab_M := ([(2, 0, 0), (0, (-2147483648), 2147483647), (1, (-9223372036854775808), 9223372036854775807), (0, (-2147483648), 2147483647)], [(some (0, (-1), (-1)), [(2, 0, 0), (0, (-2147483648), 2147483647), (1, (-9223372036854775808), 9223372036854775807), (0, (-2147483648), 2147483647)]), (some (0, (-2), (-2)), [(2, 0, 0), (0, 0, 3), (1, (-9223372036854775808), 9223372036854775807), (0, (-2147483648), 2147483647)]), (some (0, (-4), (-4)), [(2, 0, 0), (0, 0, 3), (1, (-9223372036854775808), 9223372036854775807), (0, (-2147483648), 2147483647)]), (some (0, (-6), (-6)), [(2, 0, 0), (0, 0, 3), (1, (-9223372036854775808), 9223372036854775807), (0, (-2147483648), 2147483647)]), (some (0, (-2147483648), 2147483647), [(2, 0, 0), (0, 0, 3), (1, (-9223372036854775808), 9223372036854775807), (0, (-2147483648), 2147483647)])])
set_option maxRecDepth 100000 in
theorem kc43 : ab_ok ab_TT ab_sets ab_WR 9 78 mc43 := ab_chk_ok (S := ab_SL [(30, mc42), (103, mc1), (188, mc34)]) (nds := []) (mc := []) (fuel := 3000) ab_mc0 (by decide) (by decide) (ab_SLc kc42 (by decide) (ab_SLc kc1 (by decide) (ab_SLc kc34 (by decide) ab_SLn))) (by decide +kernel)
/-- J7_fill_53178 -/
noncomputable def mc44 : ab_M := ([(2, 20, 0), (0, 0, 0)], [(none, [(2, 20, 0), (0, 0, 0)])])
set_option maxRecDepth 100000 in
theorem kc44 : ab_ok ab_TT ab_sets ab_WR 1 192 mc44 := ab_chk_ok (S := ab_SL []) (nds := [(5, ([(0, 0), (0, 0), (0, 36), (36, 36)], [some (2, 20, 0), some (0, 1, 0), some (0, 2, 0), some (0, 3, 0)], [], [(2, 20, 0), (0, 1, 0)]), [(2, (-2))], 73)]) (mc := []) (fuel := 3000) ab_mc0 (by decide) (by decide) ab_SLn (by decide +kernel)
/-- X4_keepMost -/
noncomputable def mc45 : ab_M := ([(2, 18, 0), (2, 3, 0)], [(none, [(2, 18, 0), (2, 3, 0)])])
set_option maxRecDepth 100000 in
theorem kc45 : ab_ok ab_TT ab_sets ab_WR 2 28 mc45 := ab_chk_ok (S := ab_SL [(38, mc4)]) (nds := [(2, ([(0, 0), (0, 36)], [some (2, 18, 0), some (2, 3, 0), some (0, 1, 0), none], [], [(2, 18, 0), (2, 3, 0)]), [(2, (-2))], 73)]) (mc := []) (fuel := 3000) ab_mc0 (by decide) (by decide) (ab_SLc kc4 (by decide) ab_SLn) (by decide +kernel)
/-- X6_isThere -/
noncomputable def mc46 : ab_M := ([(2, 3, 0), (0, (-2147483648), 2147483647)], [(some (0, 0, 0), [(2, 3, 0), (0, (-2147483648), 2147483647)]), (some (0, 1, 1), [(2, 3, 0), (0, 0, 3)])])
set_option maxRecDepth 100000 in
theorem kc46 : ab_ok ab_TT ab_sets ab_WR 2 41 mc46 := ab_chk_ok (S := ab_SL [(102, mc0)]) (nds := []) (mc := []) (fuel := 3000) ab_mc0 (by decide) (by decide) (ab_SLc kc0 (by decide) ab_SLn) (by decide +kernel)
/-- X4_meeting -/
noncomputable def mc47 : ab_M := ([(2, 18, 0), (2, 3, 0)], [(some (0, (-6), (-6)), [(2, 18, 0), (2, 3, 0)]), (some (0, 0, 35), [(2, 18, 0), (2, 3, 0)])])
set_option maxRecDepth 100000 in
theorem kc47 : ab_ok ab_TT ab_sets ab_WR 6 27 mc47 := ab_chk_ok (S := ab_SL [(22, mc16), (28, mc45), (38, mc4), (41, mc46), (192, mc44)]) (nds := [(10, ([(0, 0), (0, 4)], [some (2, 18, 0), some (2, 3, 0), some (0, 1, 0), none], [], [(2, 18, 0), (2, 3, 0)]), [(2, (-2))], 83), (62, ([(0, 0), (0, 35), (1, 36)], [some (2, 18, 0), some (2, 3, 0), some (0, 1, 0), some (0, 2, 0)], [], [(2, 18, 0), (2, 3, 0)]), [(3, (-2))], 73), (62, ([(0, 0), ((-6), (-6)), (0, 36)], [some (2, 18, 0), some (2, 3, 0), some (0, 1, 0), some (0, 2, 0)], [], [(2, 18, 0), (2, 3, 0)]), [(3, (-2))], 73)]) (mc := []) (fuel := 3000) ab_mc0 (by decide) (by decide) (ab_SLc kc16 (by decide) (ab_SLc kc45 (by decide) (ab_SLc kc4 (by decide) (ab_SLc kc46 (by decide) (ab_SLc kc44 (by decide) ab_SLn))))) (by decide +kernel)
/-- X9_meet -/
noncomputable def mc48 : ab_M := ([(2, 0, 0), (0, (-2147483648), 2147483647)], [(some (0, (-2), (-2)), [(2, 0, 0), (0, (-2147483648), 2147483647)]), (some (0, (-3), (-3)), [(2, 0, 0), (0, 0, 1)]), (some (0, (-6), (-6)), [(2, 0, 0), (0, 0, 1)]), (some (0, (-2147483648), 2147483647), [(2, 0, 0), (0, 0, 1)])])
set_option maxRecDepth 100000 in
theorem kc48 : ab_ok ab_TT ab_sets ab_WR 7 81 mc48 := ab_chk_ok (S := ab_SL [(27, mc47), (102, mc31)]) (nds := []) (mc := []) (fuel := 3000) ab_mc0 (by decide) (by decide) (ab_SLc kc47 (by decide) (ab_SLc kc31 (by decide) ab_SLn)) (by decide +kernel)
/-- X9_within -/
noncomputable def mc49 : ab_M := ([(0, (-2147483648), 2147483647), (0, 0, 0), (0, 35, 35)], [(some (0, 0, 0), [(0, (-2147483648), 2147483647), (0, 0, 0), (0, 35, 35)]), (some (0, 1, 1), [(0, 0, 35), (0, 0, 0), (0, 35, 35)])])
set_option maxRecDepth 100000 in
theorem kc49 : ab_ok ab_TT ab_sets ab_WR 1 102 mc49 := ab_chk_ok (S := ab_SL []) (nds := []) (mc := []) (fuel := 3000) ab_mc0 (by decide) (by decide) ab_SLn (by decide +kernel)
/-- X9_made -/
noncomputable def mc50 : ab_M := ([(2, 0, 0), (1, (-9223372036854775808), 9223372036854775807), (0, (-2147483648), 2147483647), (0, (-2147483648), 2147483647)], [(some (0, (-2), (-2)), [(2, 0, 0), (1, (-9223372036854775808), 9223372036854775807), (0, (-2147483648), 2147483647), (0, (-2147483648), 2147483647)]), (some (0, (-2147483648), 2147483647), [(2, 0, 0), (1, (-9223372036854775808), 9223372036854775807), (0, 0, 35), (0, 0, 1)])])
set_option maxRecDepth 100000 in
theorem kc50 : ab_ok ab_TT ab_sets ab_WR 5 82 mc50 := ab_chk_ok (S := ab_SL [(23, mc15), (102, mc31), (102, mc49)]) (nds := [(51, ([(0, 0), ((-9223372036854775808), 9223372036854775807), (0, 35), (0, 1), ((-2147483648), 2147483647), ((-6), 50), (1, 51)], [some (2, 0, 0), some (1, 1, 0), none, some (0, 2, 0), some (0, 3, 0), some (0, 4, 0), some (0, 5, 0), some (0, 6, 0)], [], [(2, 0, 0), (1, 1, 0), (0, 2, 0), (0, 3, 0)]), [(7, (-2))], 103)]) (mc := []) (fuel := 3000) ab_mc0 (by decide) (by decide) (ab_SLc kc15 (by decide) (ab_SLc kc31 (by decide) (ab_SLc kc49 (by decide) ab_SLn))) (by decide +kernel)
/-- X6_fitting -/
noncomputable def mc51 : ab_M := ([(2, 3, 0)], [(some (1, (-9223372036854775808), 9223372036854775807), [(2, 3, 0)])])
set_option maxRecDepth 100000 in
theorem kc51 : ab_ok ab_TT ab_sets ab_WR 3 47 mc51 := ab_chk_ok (S := ab_SL [(44, mc8)]) (nds := [(7, ([(0, 0), ((-9223372036854775808), 9223372036854775807), (0, 8)], [some (2, 3, 0), some (1, 1, 0), none, some (0, 2, 0)], [], [(2, 3, 0)]), [(3, (-2))], 17)]) (mc := []) (fuel := 3000) ab_mc0 (by decide) (by decide) (ab_SLc kc8 (by decide) ab_SLn) (by decide +kernel)
/-- X9_where -/
noncomputable def mc52 : ab_M := ([(2, 0, 0)], [(some (1, (-9223372036854775808), 9223372036854775807), [(2, 0, 0)])])
set_option maxRecDepth 100000 in
theorem kc52 : ab_ok ab_TT ab_sets ab_WR 4 85 mc52 := ab_chk_ok (S := ab_SL [(47, mc51)]) (nds := []) (mc := []) (fuel := 3000) ab_mc0 (by decide) (by decide) (ab_SLc kc51 (by decide) ab_SLn) (by decide +kernel)
/-- X9_within -/
noncomputable def mc53 : ab_M := ([(0, (-2147483648), 2147483647), (0, 0, 0), (0, 50, 50)], [(some (0, 0, 0), [(0, (-2147483648), 2147483647), (0, 0, 0), (0, 50, 50)]), (some (0, 1, 1), [(0, 0, 50), (0, 0, 0), (0, 50, 50)])])
set_option maxRecDepth 100000 in
theorem kc53 : ab_ok ab_TT ab_sets ab_WR 1 102 mc53 := ab_chk_ok (S := ab_SL []) (nds := []) (mc := []) (fuel := 3000) ab_mc0 (by decide) (by decide) ab_SLn (by decide +kernel)
/-- J7_fill_53178 -/
noncomputable def mc54 : ab_M := ([(2, 42, 0), (0, 0, 0)], [(none, [(2, 42, 0), (0, 0, 0)])])
set_option maxRecDepth 100000 in
theorem kc54 : ab_ok ab_TT ab_sets ab_WR 1 192 mc54 := ab_chk_ok (S := ab_SL []) (nds := [(5, ([(0, 0), (0, 0), (0, 51), (51, 51)], [some (2, 42, 0), some (0, 1, 0), some (0, 2, 0), some (0, 3, 0)], [], [(2, 42, 0), (0, 1, 0)]), [(2, (-2))], 103)]) (mc := []) (fuel := 3000) ab_mc0 (by decide) (by decide) ab_SLn (by decide +kernel)
/-- X6_squareBetween -/
noncomputable def mc55 : ab_M := ([(2, 3, 0), (0, 0, 35), (0, 0, 35)], [(some (0, (-50), 50), [(2, 3, 0), (0, 0, 35), (0, 0, 35)])])
set_option maxRecDepth 100000 in
theorem kc55 : ab_ok ab_TT ab_sets ab_WR 1 43 mc55 := ab_chk_ok (S := ab_SL []) (nds := []) (mc := []) (fuel := 3000) ab_mc0 (by decide) (by decide) ab_SLn (by decide +kernel)
/-- X9_mostLeft -/
noncomputable def mc56 : ab_M := ([(2, 0, 0), (1, (-9223372036854775808), 9223372036854775807), (0, 0, 35)], [(some (0, 0, 2147483647), [(2, 0, 0), (1, (-9223372036854775808), 9223372036854775807), (0, 0, 35)])])
set_option maxRecDepth 100000 in
theorem kc56 : ab_ok ab_TT ab_sets ab_WR 2 98 mc56 := ab_chk_ok (S := ab_SL [(38, mc4), (43, mc55), (102, mc53), (105, mc2), (192, mc54)]) (nds := [(14, ([(0, 0), ((-9223372036854775808), 9223372036854775807), (0, 35), (0, 2147483647), (0, 36)], [some (2, 0, 0), some (1, 1, 0), none, some (0, 2, 0), some (0, 3, 0), some (0, 4, 0), none], [], [(2, 0, 0), (1, 1, 0), (0, 2, 0)]), [(5, (-2))], 73)]) (mc := []) (fuel := 3000) ab_mc0 (by decide) (by decide) (ab_SLc kc4 (by decide) (ab_SLc kc55 (by decide) (ab_SLc kc53 (by decide) (ab_SLc kc2 (by decide) (ab_SLc kc54 (by decide) ab_SLn))))) (by decide +kernel)
/-- X9_ask -/
noncomputable def mc57 : ab_M := ([(2, 0, 0), (0, (-2147483648), 2147483647)], [(some (0, (-2), (-2)), [(2, 0, 0), (0, (-2147483648), 2147483647)]), (some (0, 0, 37), [(2, 0, 0), (0, 0, 1)])])
set_option maxRecDepth 100000 in
theorem kc57 : ab_ok ab_TT ab_sets ab_WR 4 86 mc57 := ab_chk_ok (S := ab_SL [(38, mc4), (47, mc51), (98, mc56), (102, mc31)]) (nds := [(30, ([(0, 0), (0, 1), ((-9223372036854775808), 9223372036854775807), (0, 35), (0, 36), (0, 37)], [some (2, 0, 0), some (0, 1, 0), some (1, 2, 0), none, some (0, 3, 0), some (0, 5, 0), some (0, 4, 0), none], [], [(2, 0, 0), (0, 1, 0)]), [(6, (-2))], 73)]) (mc := []) (fuel := 3000) ab_mc0 (by decide) (by decide) (ab_SLc kc4 (by decide) (ab_SLc kc51 (by decide) (ab_SLc kc56 (by decide) (ab_SLc kc31 (by decide) ab_SLn)))) (by decide +kernel)
/-- X9_within -/
noncomputable def mc58 : ab_M := ([(0, (-2147483648), 2147483647), (0, 0, 0), (0, 12, 12)], [(some (0, 0, 0), [(0, (-2147483648), 2147483647), (0, 0, 0), (0, 12, 12)]), (some (0, 1, 1), [(0, 0, 12), (0, 0, 0), (0, 12, 12)])])
set_option maxRecDepth 100000 in
theorem kc58 : ab_ok ab_TT ab_sets ab_WR 1 102 mc58 := ab_chk_ok (S := ab_SL []) (nds := []) (mc := []) (fuel := 3000) ab_mc0 (by decide) (by decide) ab_SLn (by decide +kernel)
/-- X9_after -/
noncomputable def mc59 : ab_M := ([(2, 0, 0), (0, (-2147483648), 2147483647), (0, (-2147483648), 2147483647), (0, (-2147483648), 2147483647)], [(some (1, (-1000000000000000001), (-1000000000000000001)), [(2, 0, 0), (0, (-2147483648), 2147483647), (0, (-2147483648), 2147483647), (0, (-2147483648), 2147483647)]), (some (1, (-1000000000000000002), (-1000000000000000002)), [(2, 0, 0), (0, 0, 3), (0, 0, 35), (0, (-2147483648), 2147483647)]), (some (1, (-9223372036854775808), 9223372036854775807), [(2, 0, 0), (0, 0, 3), (0, 0, 35), (0, 0, 12)])])
set_option maxRecDepth 100000 in
theorem kc59 : ab_ok ab_TT ab_sets ab_WR 4 87 mc59 := ab_chk_ok (S := ab_SL [(39, mc5), (45, mc14), (102, mc58), (103, mc1), (104, mc11)]) (nds := [(45, ([(0, 0), (0, 3), (0, 35), (0, 12), ((-9223372036854775808), 9223372036854775807), (0, 12)], [some (2, 0, 0), some (0, 1, 0), some (0, 2, 0), some (0, 3, 0), some (1, 4, 0), none, some (0, 5, 0)], [], [(2, 0, 0), (0, 1, 0), (0, 2, 0), (0, 3, 0)]), [(6, (-2))], 25)]) (mc := []) (fuel := 3000) ab_mc0 (by decide) (by decide) (ab_SLc kc5 (by decide) (ab_SLc kc14 (by decide) (ab_SLc kc58 (by decide) (ab_SLc kc1 (by decide) (ab_SLc kc11 (by decide) ab_SLn))))) (by decide +kernel)
/-- J7_fill_d0a16 -/
noncomputable def mc60 : ab_M := ([(3, 0, 0), (1, 0, 0)], [(none, [(3, 0, 0), (1, 0, 0)])])
set_option maxRecDepth 100000 in
theorem kc60 : ab_ok ab_TT ab_sets ab_WR 1 191 mc60 := ab_chk_ok (S := ab_SL []) (nds := [(6, ([(0, 0), (0, 0), (0, 36), (36, 36)], [some (3, 0, 0), some (1, 1, 0), none, some (0, 2, 0), some (0, 3, 0)], [], [(3, 0, 0), (1, 1, 0)]), [(3, (-2))], 73)]) (mc := []) (fuel := 3000) ab_mc0 (by decide) (by decide) ab_SLn (by decide +kernel)
/-- X1_begin -/
noncomputable def mc61 : ab_M := ([(2, 30, 0), (2, 3, 0), (0, 1, 50), (0, 0, 35), (1, (-9223372036854775808), 9223372036854775807)], [(none, [(2, 30, 0), (2, 3, 0), (0, 1, 50), (0, 0, 35), (1, (-9223372036854775808), 9223372036854775807)])])
set_option maxRecDepth 100000 in
theorem kc61 : ab_ok ab_TT ab_sets ab_WR 3 6 mc61 := ab_chk_ok (S := ab_SL [(38, mc4), (44, mc8), (191, mc60)]) (nds := [(27, ([(0, 0), (1, 50), (0, 35), ((-9223372036854775808), 9223372036854775807), (0, 36)], [some (2, 30, 0), some (2, 3, 0), some (0, 1, 0), some (0, 2, 0), some (1, 3, 0), none, some (0, 4, 0)], [], [(2, 30, 0), (2, 3, 0), (0, 1, 0), (0, 2, 0), (1, 3, 0)]), [(6, (-2))], 73)]) (mc := []) (fuel := 3000) ab_mc0 (by decide) (by decide) (ab_SLc kc4 (by decide) (ab_SLc kc8 (by decide) (ab_SLc kc60 (by decide) ab_SLn))) (by decide +kernel)
/-- X1_swap -/
noncomputable def mc62 : ab_M := ([(2, 30, 0)], [(none, [(2, 30, 0)])])
set_option maxRecDepth 100000 in
theorem kc62 : ab_ok ab_TT ab_sets ab_WR 1 10 mc62 := ab_chk_ok (S := ab_SL []) (nds := []) (mc := []) (fuel := 3000) ab_mc0 (by decide) (by decide) ab_SLn (by decide +kernel)
/-- X1_hand -/
noncomputable def mc63 : ab_M := ([(2, 30, 0), (0, 0, 35), (1, (-9223372036854775808), 9223372036854775807)], [(none, [(2, 30, 0), (0, 0, 35), (1, (-9223372036854775808), 9223372036854775807)])])
set_option maxRecDepth 100000 in
theorem kc63 : ab_ok ab_TT ab_sets ab_WR 2 9 mc63 := ab_chk_ok (S := ab_SL [(105, mc2)]) (nds := [(3, ([(0, 0), (0, 35), ((-9223372036854775808), 9223372036854775807), (0, 36)], [some (2, 30, 0), some (0, 1, 0), some (1, 2, 0), none, some (0, 3, 0)], [], [(2, 30, 0), (0, 1, 0), (1, 2, 0)]), [(4, (-2))], 73)]) (mc := []) (fuel := 3000) ab_mc0 (by decide) (by decide) (ab_SLc kc2 (by decide) ab_SLn) (by decide +kernel)
/-- X1_strideAllWays -/
noncomputable def mc64 : ab_M := ([(2, 30, 0)], [(none, [(2, 30, 0)])])
set_option maxRecDepth 100000 in
theorem kc64 : ab_ok ab_TT ab_sets ab_WR 3 7 mc64 := ab_chk_ok (S := ab_SL [(9, mc63), (10, mc62), (191, mc60)]) (nds := [(10, ([(0, 0), (0, 36)], [some (2, 30, 0), some (0, 1, 0)], [], [(2, 30, 0)]), [(1, (-2))], 73)]) (mc := []) (fuel := 3000) ab_mc0 (by decide) (by decide) (ab_SLc kc63 (by decide) (ab_SLc kc62 (by decide) (ab_SLc kc60 (by decide) ab_SLn))) (by decide +kernel)
/-- X9_ways -/
noncomputable def mc65 : ab_M := ([(2, 0, 0), (0, (-2147483648), 2147483647), (0, (-2147483648), 2147483647), (0, (-2147483648), 2147483647), (0, (-2147483648), 2147483647)], [(some (1, (-1000000000000000001), (-1000000000000000001)), [(2, 0, 0), (0, (-2147483648), 2147483647), (0, (-2147483648), 2147483647), (0, (-2147483648), 2147483647), (0, (-2147483648), 2147483647)]), (some (1, (-1000000000000000002), (-1000000000000000002)), [(2, 0, 0), (0, 0, 3), (0, 0, 35), (0, 0, 35), (0, (-2147483648), 2147483647)]), (some (1, (-9223372036854775808), 9223372036854775807), [(2, 0, 0), (0, 0, 3), (0, 0, 35), (0, 0, 35), (0, 0, 12)])])
set_option maxRecDepth 100000 in
theorem kc65 : ab_ok ab_TT ab_sets ab_WR 4 88 mc65 := ab_chk_ok (S := ab_SL [(6, mc61), (7, mc64), (39, mc5), (102, mc58), (103, mc1)]) (nds := [(73, ([(0, 0), (0, 3), (0, 35), (0, 35), (0, 12), (0, 12)], [some (2, 0, 0), some (0, 1, 0), some (0, 2, 0), some (0, 3, 0), some (0, 4, 0), some (0, 5, 0)], [], [(2, 0, 0), (0, 1, 0), (0, 2, 0), (0, 3, 0), (0, 4, 0)]), [(5, (-2))], 25)]) (mc := []) (fuel := 3000) ab_mc0 (by decide) (by decide) (ab_SLc kc61 (by decide) (ab_SLc kc64 (by decide) (ab_SLc kc5 (by decide) (ab_SLc kc58 (by decide) (ab_SLc kc1 (by decide) ab_SLn))))) (by decide +kernel)
/-- X9_commonDivisor -/
noncomputable def mc66 : ab_M := ([(1, (-9223372036854775808), 9223372036854775807), (1, (-9223372036854775808), 9223372036854775807)], [(some (1, (-9223372036854775808), 9223372036854775807), [(1, (-9223372036854775808), 9223372036854775807), (1, (-9223372036854775808), 9223372036854775807)])])
set_option maxRecDepth 100000 in
theorem kc66 : ab_ok ab_TT ab_sets ab_WR 1 101 mc66 := ab_chk_ok (S := ab_SL []) (nds := [(3, ([(0, 0), ((-9223372036854775808), 9223372036854775807), ((-9223372036854775808), 9223372036854775807), ((-9223372036854775808), 9223372036854775807), ((-9223372036854775808), 9223372036854775807), (0, 200)], [some (1, 1, 0), none, some (1, 3, 0), none, some (0, 5, 0), none, none], [], [(1, 2, 0), (1, 4, 0)]), [(4, (-2))], 401)]) (mc := []) (fuel := 3000) ab_mc0 (by decide) (by decide) ab_SLn (by decide +kernel)
/-- X9_within -/
noncomputable def mc67 : ab_M := ([(0, (-2147483648), 2147483647), (0, 0, 0), (0, 5, 5)], [(some (0, 0, 0), [(0, (-2147483648), 2147483647), (0, 0, 0), (0, 5, 5)]), (some (0, 1, 1), [(0, 0, 5), (0, 0, 0), (0, 5, 5)])])
set_option maxRecDepth 100000 in
theorem kc67 : ab_ok ab_TT ab_sets ab_WR 1 102 mc67 := ab_chk_ok (S := ab_SL []) (nds := []) (mc := []) (fuel := 3000) ab_mc0 (by decide) (by decide) ab_SLn (by decide +kernel)
/-- X1_strideByLot -/
noncomputable def mc68 : ab_M := ([(2, 30, 0)], [(none, [(2, 30, 0)])])
set_option maxRecDepth 100000 in
theorem kc68 : ab_ok ab_TT ab_sets ab_WR 3 8 mc68 := ab_chk_ok (S := ab_SL [(9, mc63), (10, mc62), (188, mc34), (191, mc60)]) (nds := [(10, ([(0, 0), (0, 36)], [some (2, 30, 0), some (0, 1, 0), none], [], [(2, 30, 0)]), [(1, (-2))], 73)]) (mc := []) (fuel := 3000) ab_mc0 (by decide) (by decide) (ab_SLc kc63 (by decide) (ab_SLc kc62 (by decide) (ab_SLc kc34 (by decide) (ab_SLc kc60 (by decide) ab_SLn)))) (by decide +kernel)
/-- X9_chance -/
noncomputable def mc69 : ab_M := ([(2, 0, 0), (0, (-2147483648), 2147483647), (0, (-2147483648), 2147483647), (0, (-2147483648), 2147483647), (0, (-2147483648), 2147483647), (0, (-2147483648), 2147483647)], [(some (1, (-1000000000000000001), (-1000000000000000001)), [(2, 0, 0), (0, (-2147483648), 2147483647), (0, (-2147483648), 2147483647), (0, (-2147483648), 2147483647), (0, (-2147483648), 2147483647), (0, (-2147483648), 2147483647)]), (some (1, (-1000000000000000002), (-1000000000000000002)), [(2, 0, 0), (0, 0, 3), (0, 0, 35), (0, 0, 35), (0, (-2147483648), 2147483647), (0, (-2147483648), 2147483647)]), (some (1, (-9223372036854775808), 9223372036854775807), [(2, 0, 0), (0, 0, 3), (0, 0, 35), (0, 0, 35), (0, 0, 5), (0, 0, 1)])])
set_option maxRecDepth 100000 in
theorem kc69 : ab_ok ab_TT ab_sets ab_WR 4 89 mc69 := ab_chk_ok (S := ab_SL [(6, mc61), (8, mc68), (39, mc5), (101, mc66), (102, mc31), (102, mc67), (103, mc1)]) (nds := [(63, ([(0, 0), (0, 3), (0, 35), (0, 35), (0, 5), (0, 1), ((-9223372036854775808), 9223372036854775807), (0, 5)], [some (2, 0, 0), some (0, 1, 0), some (0, 2, 0), some (0, 3, 0), some (0, 4, 0), some (0, 5, 0), some (1, 6, 0), none, some (0, 7, 0), none], [], [(2, 0, 0), (0, 1, 0), (0, 2, 0), (0, 3, 0), (0, 4, 0), (0, 5, 0)]), [(8, (-2))], 23), (110, ([(0, 0), (0, 3), (0, 35), (0, 35), (0, 5), (0, 1), ((-9223372036854775808), 9223372036854775807), (0, 5)], [some (2, 0, 0), some (0, 1, 0), some (0, 2, 0), some (0, 3, 0), some (0, 4, 0), some (0, 5, 0), some (1, 6, 0), none, some (0, 7, 0), none], [], [(2, 0, 0), (0, 1, 0), (0, 2, 0), (0, 3, 0), (0, 4, 0), (0, 5, 0)]), [(8, (-2))], 11)]) (mc := []) (fuel := 3000) ab_mc0 (by decide) (by decide) (ab_SLc kc61 (by decide) (ab_SLc kc68 (by decide) (ab_SLc kc5 (by decide) (ab_SLc kc66 (by decide) (ab_SLc kc31 (by decide) (ab_SLc kc67 (by decide) (ab_SLc kc1 (by decide) ab_SLn))))))) (by decide +kernel)
/-- X0_begin -/
noncomputable def mc70 : ab_M := ([(2, 34, 0), (2, 3, 0), (0, 1, 50), (0, 1, 50)], [(none, [(2, 34, 0), (2, 3, 0), (0, 1, 50), (0, 1, 50)])])
set_option maxRecDepth 100000 in
theorem kc70 : ab_ok ab_TT ab_sets ab_WR 4 1 mc70 := ab_chk_ok (S := ab_SL [(38, mc4), (40, mc6), (44, mc8), (104, mc11)]) (nds := [(11, ([(0, 0), (1, 50), (1, 50), (0, 36)], [some (2, 34, 0), some (2, 3, 0), some (0, 1, 0), some (0, 2, 0), some (0, 3, 0), none], [], [(2, 34, 0), (2, 3, 0), (0, 1, 0), (0, 2, 0)]), [(4, (-2))], 73)]) (mc := []) (fuel := 3000) ab_mc0 (by decide) (by decide) (ab_SLc kc4 (by decide) (ab_SLc kc6 (by decide) (ab_SLc kc8 (by decide) (ab_SLc kc11 (by decide) ab_SLn)))) (by decide +kernel)
/-- X9_leastOf -/
noncomputable def mc71 : ab_M := ([(1, (-9223372036854775808), 9223372036854775807)], [(some (0, (-6), (-6)), [(1, (-9223372036854775808), 9223372036854775807)]), (some (0, 0, 35), [(1, (-9223372036854775808), 9223372036854775807)])])
set_option maxRecDepth 100000 in
theorem kc71 : ab_ok ab_TT ab_sets ab_WR 2 106 mc71 := ab_chk_ok (S := ab_SL [(105, mc2)]) (nds := [(2, ([(0, 0), ((-9223372036854775808), 9223372036854775807), (0, 36)], [some (1, 1, 0), none, some (0, 2, 0)], [], [(1, 1, 0)]), [(2, (-2))], 73)]) (mc := []) (fuel := 3000) ab_mc0 (by decide) (by decide) (ab_SLc kc2 (by decide) ab_SLn) (by decide +kernel)
/-- X0_corner -/
noncomputable def mc72 : ab_M := ([(2, 34, 0)], [(none, [(2, 34, 0)])])
set_option maxRecDepth 100000 in
theorem kc72 : ab_ok ab_TT ab_sets ab_WR 2 3 mc72 := ab_chk_ok (S := ab_SL [(104, mc11), (105, mc2)]) (nds := [(2, ([(0, 0), (0, 36)], [some (2, 34, 0), some (0, 1, 0), none, none, none], [], [(2, 34, 0)]), [(1, (-76))], 2811), (17, ([(0, 0), (0, 35), ((-9223372036854775808), 9223372036854775807), (0, 36)], [some (2, 34, 0), some (0, 1, 0), some (1, 2, 0), none, some (0, 3, 0)], [], [(2, 34, 0)]), [(1, (-76)), (4, (-2))], 2809)]) (mc := []) (fuel := 3000) ab_mc0 (by decide) (by decide) (ab_SLc kc11 (by decide) (ab_SLc kc2 (by decide) ab_SLn)) (by decide +kernel)
/-- X0_close -/
noncomputable def mc73 : ab_M := ([(2, 34, 0)], [(some (0, 0, 1), [(2, 34, 0)])])
set_option maxRecDepth 100000 in
theorem kc73 : ab_ok ab_TT ab_sets ab_WR 2 4 mc73 := ab_chk_ok (S := ab_SL [(105, mc2)]) (nds := [(4, ([(0, 0), (0, 1), (0, 36)], [some (2, 34, 0), some (0, 1, 0), some (0, 2, 0), none, none, none], [], [(2, 34, 0)]), [(2, (-76))], 2811), (17, ([(0, 0), (0, 1), (0, 35), ((-9223372036854775808), 9223372036854775807), (0, 36)], [some (2, 34, 0), some (0, 1, 0), some (0, 2, 0), some (1, 3, 0), none, some (0, 4, 0)], [], [(2, 34, 0)]), [(2, (-76)), (5, (-2))], 2809)]) (mc := [(73, mc_or 74)]) (fuel := 3000) (mc_1 (mc_orH 74 rfl rfl) ab_mc0) (by decide) (by decide) (ab_SLc kc2 (by decide) ab_SLn) (by decide +kernel)
/-- X0_hunt -/
noncomputable def mc74 : ab_M := ([(2, 34, 0), (0, 0, 35), (0, 0, 35)], [(none, [(2, 34, 0), (0, 0, 35), (0, 0, 35)])])
set_option maxRecDepth 100000 in
theorem kc74 : ab_ok ab_TT ab_sets ab_WR 3 2 mc74 := ab_chk_ok (S := ab_SL [(3, mc72), (4, mc73), (105, mc2), (106, mc71)]) (nds := [(28, ([(0, 0), (0, 35), (0, 35), (0, 1), (1, 9999)], [some (2, 34, 0), some (0, 1, 0), some (0, 2, 0), some (0, 3, 0), some (0, 4, 0)], [], [(2, 34, 0), (0, 1, 0), (0, 2, 0)]), [(4, (-2))], 19999)]) (mc := []) (fuel := 3000) ab_mc0 (by decide) (by decide) (ab_SLc kc72 (by decide) (ab_SLc kc73 (by decide) (ab_SLc kc2 (by decide) (ab_SLc kc71 (by decide) ab_SLn)))) (by decide +kernel)
/-- X9_guard -/
noncomputable def mc75 : ab_M := ([(2, 0, 0), (0, (-2147483648), 2147483647), (0, (-2147483648), 2147483647), (0, (-2147483648), 2147483647), (0, (-2147483648), 2147483647), (0, (-2147483648), 2147483647)], [(some (0, (-1), (-1)), [(2, 0, 0), (0, (-2147483648), 2147483647), (0, (-2147483648), 2147483647), (0, (-2147483648), 2147483647), (0, (-2147483648), 2147483647), (0, (-2147483648), 2147483647)]), (some (0, (-2), (-2)), [(2, 0, 0), (0, 0, 3), (0, 0, 35), (0, 0, 3), (0, 0, 35), (0, (-2147483648), 2147483647)]), (some (0, (-2147483648), 2147483647), [(2, 0, 0), (0, 0, 3), (0, 0, 35), (0, 0, 3), (0, 0, 35), (0, 0, 1)])])
set_option maxRecDepth 100000 in
theorem kc75 : ab_ok ab_TT ab_sets ab_WR 5 90 mc75 := ab_chk_ok (S := ab_SL [(1, mc70), (2, mc74), (40, mc6), (102, mc31), (103, mc1)]) (nds := []) (mc := []) (fuel := 3000) ab_mc0 (by decide) (by decide) (ab_SLc kc70 (by decide) (ab_SLc kc74 (by decide) (ab_SLc kc6 (by decide) (ab_SLc kc31 (by decide) (ab_SLc kc1 (by decide) ab_SLn))))) (by decide +kernel)
/-- J6_bitCount_0f7a4 -/
noncomputable def mc76 : ab_M := ([(0, (-2147483648), 2147483647)], [(some (0, 0, 63), [(0, (-2147483648), 2147483647)])])
set_option maxRecDepth 100000 in
theorem kc76 : ab_ok ab_TT ab_sets ab_WR 1 187 mc76 := ab_chk_ok (S := ab_SL []) (nds := []) (mc := []) (fuel := 3000) ab_mc0 (by decide) (by decide) ab_SLn (by decide +kernel)
/-- X3_seek -/
noncomputable def mc77 : ab_M := ([(2, 39, 0), (0, (-1), (-1)), (0, (-2147483648), 16), (0, (-2147483648), 2147483647), (0, (-2147483648), 2147483647)], [(some (0, (-6), (-6)), [(2, 39, 0), (0, (-1), (-1)), (0, (-2147483648), 16), (0, (-2147483648), 2147483647), (0, (-2147483648), 2147483647)]), (some (0, (-2147483648), 2147483647), [(2, 39, 0), (0, (-1), (-1)), (0, (-2147483648), 16), (0, (-2147483648), 2147483647), (0, (-2147483648), 2147483647)])])
set_option maxRecDepth 100000 in
theorem kc77 : ab_ok ab_TT ab_sets ab_WR 1 19 mc77 := ab_chk_ok (S := ab_SL []) (nds := []) (mc := []) (fuel := 3000) ab_mc0 (by decide) (by decide) ab_SLn (by decide +kernel)
/-- X3_isHopeless -/
noncomputable def mc78 : ab_M := ([(2, 39, 0), (0, (-2147483648), 2147483647), (0, 0, 15), (0, (-1000000), 16)], [(some (0, 0, 0), [(2, 39, 0), (0, (-2147483648), 2147483647), (0, 0, 15), (0, (-1000000), 16)]), (some (0, 1, 1), [(2, 39, 0), (0, (-2147483648), 2147483647), (0, 0, 15), (0, (-1000000), 16)])])
set_option maxRecDepth 100000 in
theorem kc78 : ab_ok ab_TT ab_sets ab_WR 2 20 mc78 := ab_chk_ok (S := ab_SL [(187, mc76)]) (nds := []) (mc := []) (fuel := 3000) ab_mc0 (by decide) (by decide) (ab_SLc kc76 (by decide) ab_SLn) (by decide +kernel)
/-- X3_seek -/
noncomputable def mc79 : ab_M := ([(2, 39, 0), (0, (-1), 0), (0, (-1000000), 16), (0, (-2147483648), 2147483647), (0, (-2147483648), 2147483647)], [(some (0, (-6), (-6)), [(2, 39, 0), (0, (-1), 0), (0, (-1000000), 16), (0, (-2147483648), 2147483647), (0, (-2147483648), 2147483647)]), (some (0, (-2147483648), 2147483647), [(2, 39, 0), (0, (-1), 0), (0, (-1000000), 16), (0, (-2147483648), 2147483647), (0, (-2147483648), 2147483647)])])
set_option maxRecDepth 100000 in
theorem kc79 : ab_ok ab_TT ab_sets ab_WR 3 19 mc79 := ab_chk_ok (S := ab_SL [(19, mc77), (20, mc78)]) (nds := []) (mc := []) (fuel := 3000) ab_mc0 (by decide) (by decide) (ab_SLc kc77 (by decide) (ab_SLc kc78 (by decide) ab_SLn)) (by decide +kernel)
/-- X3_seek -/
noncomputable def mc80 : ab_M := ([(2, 39, 0), (0, (-1), 1), (0, (-1296), 16), (0, (-2147483648), 2147483647), (0, (-2147483648), 2147483647)], [(some (0, (-6), (-6)), [(2, 39, 0), (0, (-1), 1), (0, (-1296), 16), (0, (-2147483648), 2147483647), (0, (-2147483648), 2147483647)]), (some (0, (-2147483648), 2147483647), [(2, 39, 0), (0, (-1), 1), (0, (-1296), 16), (0, (-2147483648), 2147483647), (0, (-2147483648), 2147483647)])])
set_option maxRecDepth 100000 in
theorem kc80 : ab_ok ab_TT ab_sets ab_WR 4 19 mc80 := ab_chk_ok (S := ab_SL [(19, mc79), (20, mc78)]) (nds := []) (mc := []) (fuel := 3000) ab_mc0 (by decide) (by decide) (ab_SLc kc79 (by decide) (ab_SLc kc78 (by decide) ab_SLn)) (by decide +kernel)
/-- X3_seek -/
noncomputable def mc81 : ab_M := ([(2, 39, 0), (0, (-1), 2), (0, (-100), 16), (0, (-2147483648), 2147483647), (0, (-2147483648), 2147483647)], [(some (0, (-6), (-6)), [(2, 39, 0), (0, (-1), 2), (0, (-100), 16), (0, (-2147483648), 2147483647), (0, (-2147483648), 2147483647)]), (some (0, (-2147483648), 2147483647), [(2, 39, 0), (0, (-1), 2), (0, (-100), 16), (0, (-2147483648), 2147483647), (0, (-2147483648), 2147483647)])])
set_option maxRecDepth 100000 in
theorem kc81 : ab_ok ab_TT ab_sets ab_WR 5 19 mc81 := ab_chk_ok (S := ab_SL [(19, mc80), (20, mc78)]) (nds := []) (mc := []) (fuel := 3000) ab_mc0 (by decide) (by decide) (ab_SLc kc80 (by decide) (ab_SLc kc78 (by decide) ab_SLn)) (by decide +kernel)
/-- X3_seek -/
noncomputable def mc82 : ab_M := ([(2, 39, 0), (0, (-1), 3), (0, (-61), 16), (0, (-2147483648), 2147483647), (0, (-2147483648), 2147483647)], [(some (0, (-6), (-6)), [(2, 39, 0), (0, (-1), 3), (0, (-61), 16), (0, (-2147483648), 2147483647), (0, (-2147483648), 2147483647)]), (some (0, (-2147483648), 2147483647), [(2, 39, 0), (0, (-1), 3), (0, (-61), 16), (0, (-2147483648), 2147483647), (0, (-2147483648), 2147483647)])])
set_option maxRecDepth 100000 in
theorem kc82 : ab_ok ab_TT ab_sets ab_WR 6 19 mc82 := ab_chk_ok (S := ab_SL [(19, mc81), (20, mc78)]) (nds := []) (mc := []) (fuel := 3000) ab_mc0 (by decide) (by decide) (ab_SLc kc81 (by decide) (ab_SLc kc78 (by decide) ab_SLn)) (by decide +kernel)
/-- X3_seek -/
noncomputable def mc83 : ab_M := ([(2, 39, 0), (0, (-1), 4), (0, (-60), 16), (0, (-2147483648), 2147483647), (0, (-2147483648), 2147483647)], [(some (0, (-6), (-6)), [(2, 39, 0), (0, (-1), 4), (0, (-60), 16), (0, (-2147483648), 2147483647), (0, (-2147483648), 2147483647)]), (some (0, (-2147483648), 2147483647), [(2, 39, 0), (0, (-1), 4), (0, (-60), 16), (0, (-2147483648), 2147483647), (0, (-2147483648), 2147483647)])])
set_option maxRecDepth 100000 in
theorem kc83 : ab_ok ab_TT ab_sets ab_WR 7 19 mc83 := ab_chk_ok (S := ab_SL [(19, mc82), (20, mc78)]) (nds := []) (mc := []) (fuel := 3000) ab_mc0 (by decide) (by decide) (ab_SLc kc82 (by decide) (ab_SLc kc78 (by decide) ab_SLn)) (by decide +kernel)
/-- X3_seek -/
noncomputable def mc84 : ab_M := ([(2, 39, 0), (0, (-1), 5), (0, (-50), 16), (0, (-2147483648), 2147483647), (0, (-2147483648), 2147483647)], [(some (0, (-6), (-6)), [(2, 39, 0), (0, (-1), 5), (0, (-50), 16), (0, (-2147483648), 2147483647), (0, (-2147483648), 2147483647)]), (some (0, (-2147483648), 2147483647), [(2, 39, 0), (0, (-1), 5), (0, (-50), 16), (0, (-2147483648), 2147483647), (0, (-2147483648), 2147483647)])])
set_option maxRecDepth 100000 in
theorem kc84 : ab_ok ab_TT ab_sets ab_WR 8 19 mc84 := ab_chk_ok (S := ab_SL [(19, mc83), (20, mc78)]) (nds := []) (mc := []) (fuel := 3000) ab_mc0 (by decide) (by decide) (ab_SLc kc83 (by decide) (ab_SLc kc78 (by decide) ab_SLn)) (by decide +kernel)
/-- X3_seek -/
noncomputable def mc85 : ab_M := ([(2, 39, 0), (0, (-1), 6), (0, (-48), 16), (0, (-2147483648), 2147483647), (0, (-2147483648), 2147483647)], [(some (0, (-6), (-6)), [(2, 39, 0), (0, (-1), 6), (0, (-48), 16), (0, (-2147483648), 2147483647), (0, (-2147483648), 2147483647)]), (some (0, (-2147483648), 2147483647), [(2, 39, 0), (0, (-1), 6), (0, (-48), 16), (0, (-2147483648), 2147483647), (0, (-2147483648), 2147483647)])])
set_option maxRecDepth 100000 in
theorem kc85 : ab_ok ab_TT ab_sets ab_WR 9 19 mc85 := ab_chk_ok (S := ab_SL [(19, mc84), (20, mc78)]) (nds := []) (mc := []) (fuel := 3000) ab_mc0 (by decide) (by decide) (ab_SLc kc84 (by decide) (ab_SLc kc78 (by decide) ab_SLn)) (by decide +kernel)
/-- X3_seek -/
noncomputable def mc86 : ab_M := ([(2, 39, 0), (0, (-1), 7), (0, (-36), 16), (0, (-2147483648), 2147483647), (0, (-2147483648), 2147483647)], [(some (0, (-6), (-6)), [(2, 39, 0), (0, (-1), 7), (0, (-36), 16), (0, (-2147483648), 2147483647), (0, (-2147483648), 2147483647)]), (some (0, (-2147483648), 2147483647), [(2, 39, 0), (0, (-1), 7), (0, (-36), 16), (0, (-2147483648), 2147483647), (0, (-2147483648), 2147483647)])])
set_option maxRecDepth 100000 in
theorem kc86 : ab_ok ab_TT ab_sets ab_WR 10 19 mc86 := ab_chk_ok (S := ab_SL [(19, mc85), (20, mc78)]) (nds := []) (mc := []) (fuel := 3000) ab_mc0 (by decide) (by decide) (ab_SLc kc85 (by decide) (ab_SLc kc78 (by decide) ab_SLn)) (by decide +kernel)
/-- X3_seek -/
noncomputable def mc87 : ab_M := ([(2, 39, 0), (0, (-1), 8), (0, (-10), 16), (0, (-2147483648), 2147483647), (0, (-2147483648), 2147483647)], [(some (0, (-6), (-6)), [(2, 39, 0), (0, (-1), 8), (0, (-10), 16), (0, (-2147483648), 2147483647), (0, (-2147483648), 2147483647)]), (some (0, (-2147483648), 2147483647), [(2, 39, 0), (0, (-1), 8), (0, (-10), 16), (0, (-2147483648), 2147483647), (0, (-2147483648), 2147483647)])])
set_option maxRecDepth 100000 in
theorem kc87 : ab_ok ab_TT ab_sets ab_WR 11 19 mc87 := ab_chk_ok (S := ab_SL [(19, mc86), (20, mc78)]) (nds := []) (mc := []) (fuel := 3000) ab_mc0 (by decide) (by decide) (ab_SLc kc86 (by decide) (ab_SLc kc78 (by decide) ab_SLn)) (by decide +kernel)
/-- X3_seek -/
noncomputable def mc88 : ab_M := ([(2, 39, 0), (0, (-1), 9), (0, (-8), 16), (0, (-2147483648), 2147483647), (0, (-2147483648), 2147483647)], [(some (0, (-6), (-6)), [(2, 39, 0), (0, (-1), 9), (0, (-8), 16), (0, (-2147483648), 2147483647), (0, (-2147483648), 2147483647)]), (some (0, (-2147483648), 2147483647), [(2, 39, 0), (0, (-1), 9), (0, (-8), 16), (0, (-2147483648), 2147483647), (0, (-2147483648), 2147483647)])])
set_option maxRecDepth 100000 in
theorem kc88 : ab_ok ab_TT ab_sets ab_WR 12 19 mc88 := ab_chk_ok (S := ab_SL [(19, mc87), (20, mc78)]) (nds := []) (mc := []) (fuel := 3000) ab_mc0 (by decide) (by decide) (ab_SLc kc87 (by decide) (ab_SLc kc78 (by decide) ab_SLn)) (by decide +kernel)
/-- X3_seek -/
noncomputable def mc89 : ab_M := ([(2, 39, 0), (0, (-1), 10), (0, (-7), 16), (0, (-2147483648), 2147483647), (0, (-2147483648), 2147483647)], [(some (0, (-6), (-6)), [(2, 39, 0), (0, (-1), 10), (0, (-7), 16), (0, (-2147483648), 2147483647), (0, (-2147483648), 2147483647)]), (some (0, (-2147483648), 2147483647), [(2, 39, 0), (0, (-1), 10), (0, (-7), 16), (0, (-2147483648), 2147483647), (0, (-2147483648), 2147483647)])])
set_option maxRecDepth 100000 in
theorem kc89 : ab_ok ab_TT ab_sets ab_WR 13 19 mc89 := ab_chk_ok (S := ab_SL [(19, mc88), (20, mc78)]) (nds := []) (mc := []) (fuel := 3000) ab_mc0 (by decide) (by decide) (ab_SLc kc88 (by decide) (ab_SLc kc78 (by decide) ab_SLn)) (by decide +kernel)
/-- X3_seek -/
noncomputable def mc90 : ab_M := ([(2, 39, 0), (0, (-1), 11), (0, (-6), 16), (0, (-2147483648), 2147483647), (0, (-2147483648), 2147483647)], [(some (0, (-6), (-6)), [(2, 39, 0), (0, (-1), 11), (0, (-6), 16), (0, (-2147483648), 2147483647), (0, (-2147483648), 2147483647)]), (some (0, (-2147483648), 2147483647), [(2, 39, 0), (0, (-1), 11), (0, (-6), 16), (0, (-2147483648), 2147483647), (0, (-2147483648), 2147483647)])])
set_option maxRecDepth 100000 in
theorem kc90 : ab_ok ab_TT ab_sets ab_WR 14 19 mc90 := ab_chk_ok (S := ab_SL [(19, mc89), (20, mc78)]) (nds := []) (mc := []) (fuel := 3000) ab_mc0 (by decide) (by decide) (ab_SLc kc89 (by decide) (ab_SLc kc78 (by decide) ab_SLn)) (by decide +kernel)
/-- X3_seek -/
noncomputable def mc91 : ab_M := ([(2, 39, 0), (0, (-1), 12), (0, (-5), 16), (0, (-2147483648), 2147483647), (0, (-2147483648), 2147483647)], [(some (0, (-6), (-6)), [(2, 39, 0), (0, (-1), 12), (0, (-5), 16), (0, (-2147483648), 2147483647), (0, (-2147483648), 2147483647)]), (some (0, (-2147483648), 2147483647), [(2, 39, 0), (0, (-1), 12), (0, (-5), 16), (0, (-2147483648), 2147483647), (0, (-2147483648), 2147483647)])])
set_option maxRecDepth 100000 in
theorem kc91 : ab_ok ab_TT ab_sets ab_WR 15 19 mc91 := ab_chk_ok (S := ab_SL [(19, mc90), (20, mc78)]) (nds := []) (mc := []) (fuel := 3000) ab_mc0 (by decide) (by decide) (ab_SLc kc90 (by decide) (ab_SLc kc78 (by decide) ab_SLn)) (by decide +kernel)
/-- X3_seek -/
noncomputable def mc92 : ab_M := ([(2, 39, 0), (0, (-1), 13), (0, (-2), 16), (0, (-2147483648), 2147483647), (0, (-2147483648), 2147483647)], [(some (0, (-6), (-6)), [(2, 39, 0), (0, (-1), 13), (0, (-2), 16), (0, (-2147483648), 2147483647), (0, (-2147483648), 2147483647)]), (some (0, (-2147483648), 2147483647), [(2, 39, 0), (0, (-1), 13), (0, (-2), 16), (0, (-2147483648), 2147483647), (0, (-2147483648), 2147483647)])])
set_option maxRecDepth 100000 in
theorem kc92 : ab_ok ab_TT ab_sets ab_WR 16 19 mc92 := ab_chk_ok (S := ab_SL [(19, mc91), (20, mc78)]) (nds := []) (mc := []) (fuel := 3000) ab_mc0 (by decide) (by decide) (ab_SLc kc91 (by decide) (ab_SLc kc78 (by decide) ab_SLn)) (by decide +kernel)
/-- X3_seek -/
noncomputable def mc93 : ab_M := ([(2, 39, 0), (0, (-1), 14), (0, (-1), 16), (0, (-2147483648), 2147483647), (0, (-2147483648), 2147483647)], [(some (0, (-6), (-6)), [(2, 39, 0), (0, (-1), 14), (0, (-1), 16), (0, (-2147483648), 2147483647), (0, (-2147483648), 2147483647)]), (some (0, (-2147483648), 2147483647), [(2, 39, 0), (0, (-1), 14), (0, (-1), 16), (0, (-2147483648), 2147483647), (0, (-2147483648), 2147483647)])])
set_option maxRecDepth 100000 in
theorem kc93 : ab_ok ab_TT ab_sets ab_WR 17 19 mc93 := ab_chk_ok (S := ab_SL [(19, mc92), (20, mc78)]) (nds := []) (mc := []) (fuel := 3000) ab_mc0 (by decide) (by decide) (ab_SLc kc92 (by decide) (ab_SLc kc78 (by decide) ab_SLn)) (by decide +kernel)
/-- X3_seek -/
noncomputable def mc94 : ab_M := ([(2, 39, 0), (0, 0, 15), (0, 0, 16), (0, 0, 0), (0, 0, 0)], [(some (0, (-6), (-6)), [(2, 39, 0), (0, 0, 15), (0, 0, 16), (0, 0, 0), (0, 0, 0)]), (some (0, (-2147483648), 2147483647), [(2, 39, 0), (0, 0, 15), (0, 0, 16), (0, 0, 0), (0, 0, 0)])])
set_option maxRecDepth 100000 in
theorem kc94 : ab_ok ab_TT ab_sets ab_WR 18 19 mc94 := ab_chk_ok (S := ab_SL [(19, mc93), (20, mc78)]) (nds := []) (mc := []) (fuel := 3000) ab_mc0 (by decide) (by decide) (ab_SLc kc93 (by decide) (ab_SLc kc78 (by decide) ab_SLn)) (by decide +kernel)
/-- X3_fewest -/
noncomputable def mc95 : ab_M := ([(2, 39, 0), (2, 3, 0), (0, 1, 50)], [(some (0, (-2147483648), 2147483647), [(2, 39, 0), (2, 3, 0), (0, 1, 50)])])
set_option maxRecDepth 100000 in
theorem kc95 : ab_ok ab_TT ab_sets ab_WR 19 18 mc95 := ab_chk_ok (S := ab_SL [(19, mc94), (38, mc4), (40, mc6), (44, mc8), (104, mc11), (187, mc76)]) (nds := [(30, ([(0, 0), (1, 50), (1, 16), ((-2147483648), 2147483647), (0, 16)], [some (2, 39, 0), some (2, 3, 0), some (0, 1, 0), some (0, 2, 0), some (0, 3, 0), some (0, 4, 0), none], [], [(2, 39, 0), (2, 3, 0), (0, 1, 0)]), [(5, (-2))], 75), (121, ([(0, 0), (1, 50), (1, 16), ((-2147483648), 2147483647), (0, 20)], [some (2, 39, 0), some (2, 3, 0), some (0, 1, 0), some (0, 2, 0), some (0, 3, 0), some (0, 4, 0), none], [], [(2, 39, 0), (2, 3, 0), (0, 1, 0)]), [(5, (-2))], 41)]) (mc := []) (fuel := 3000) ab_mc0 (by decide) (by decide) (ab_SLc kc94 (by decide) (ab_SLc kc4 (by decide) (ab_SLc kc6 (by decide) (ab_SLc kc8 (by decide) (ab_SLc kc11 (by decide) (ab_SLc kc76 (by decide) ab_SLn)))))) (by decide +kernel)
/-- X9_posts -/
noncomputable def mc96 : ab_M := ([(2, 0, 0), (0, (-2147483648), 2147483647), (0, (-2147483648), 2147483647)], [(some (0, (-1), (-1)), [(2, 0, 0), (0, (-2147483648), 2147483647), (0, (-2147483648), 2147483647)]), (some (0, (-2), (-2)), [(2, 0, 0), (0, 0, 3), (0, (-2147483648), 2147483647)]), (some (0, (-4), (-4)), [(2, 0, 0), (0, 0, 3), (0, 0, 1)]), (some (0, (-2147483648), 2147483647), [(2, 0, 0), (0, 0, 3), (0, 0, 1)])])
set_option maxRecDepth 100000 in
theorem kc96 : ab_ok ab_TT ab_sets ab_WR 20 91 mc96 := ab_chk_ok (S := ab_SL [(18, mc95), (38, mc4), (102, mc31), (103, mc1), (187, mc76)]) (nds := []) (mc := []) (fuel := 3000) ab_mc0 (by decide) (by decide) (ab_SLc kc95 (by decide) (ab_SLc kc4 (by decide) (ab_SLc kc31 (by decide) (ab_SLc kc1 (by decide) (ab_SLc kc76 (by decide) ab_SLn))))) (by decide +kernel)
/-- X9_drawn -/
noncomputable def mc97 : ab_M := ([(1, (-9223372036854775808), 9223372036854775807), (0, 0, 65536), (0, 0, 35)], [(some (0, 0, 35), [(1, (-9223372036854775808), 9223372036854775807), (0, 0, 65536), (0, 0, 35)])])
set_option maxRecDepth 100000 in
theorem kc97 : ab_ok ab_TT ab_sets ab_WR 2 100 mc97 := ab_chk_ok (S := ab_SL [(105, mc2), (188, mc34)]) (nds := [(22, ([(0, 0), ((-9223372036854775808), 9223372036854775807), (0, 65536), (0, 35), (1, 127), (0, 126), (0, 36)], [some (1, 1, 0), none, some (0, 2, 0), some (0, 3, 0), some (0, 4, 0), some (0, 5, 0), some (0, 6, 0)], [], [(1, 1, 0), (0, 2, 0), (0, 3, 0)]), [(6, (-2))], 73)]) (mc := []) (fuel := 3000) ab_mc0 (by decide) (by decide) (ab_SLc kc2 (by decide) (ab_SLc kc34 (by decide) ab_SLn)) (by decide +kernel)
/-- X9_within -/
noncomputable def mc98 : ab_M := ([(0, (-2147483648), 2147483647), (0, 0, 0), (0, 2, 2)], [(some (0, 0, 0), [(0, (-2147483648), 2147483647), (0, 0, 0), (0, 2, 2)]), (some (0, 1, 1), [(0, 0, 2), (0, 0, 0), (0, 2, 2)])])
set_option maxRecDepth 100000 in
theorem kc98 : ab_ok ab_TT ab_sets ab_WR 1 102 mc98 := ab_chk_ok (S := ab_SL []) (nds := []) (mc := []) (fuel := 3000) ab_mc0 (by decide) (by decide) ab_SLn (by decide +kernel)
/-- X9_within -/
noncomputable def mc99 : ab_M := ([(0, (-2147483648), 2147483647), (0, 0, 0), (0, 9999, 9999)], [(some (0, 0, 0), [(0, (-2147483648), 2147483647), (0, 0, 0), (0, 9999, 9999)]), (some (0, 1, 1), [(0, 0, 9999), (0, 0, 0), (0, 9999, 9999)])])
set_option maxRecDepth 100000 in
theorem kc99 : ab_ok ab_TT ab_sets ab_WR 1 102 mc99 := ab_chk_ok (S := ab_SL []) (nds := []) (mc := []) (fuel := 3000) ab_mc0 (by decide) (by decide) ab_SLn (by decide +kernel)
/-- X9_within -/
noncomputable def mc100 : ab_M := ([(0, (-2147483648), 2147483647), (0, 1, 1), (0, 99, 99)], [(some (0, 0, 0), [(0, (-2147483648), 2147483647), (0, 1, 1), (0, 99, 99)]), (some (0, 1, 1), [(0, 1, 99), (0, 1, 1), (0, 99, 99)])])
set_option maxRecDepth 100000 in
theorem kc100 : ab_ok ab_TT ab_sets ab_WR 1 102 mc100 := ab_chk_ok (S := ab_SL []) (nds := []) (mc := []) (fuel := 3000) ab_mc0 (by decide) (by decide) ab_SLn (by decide +kernel)
/-- X9_year -/
noncomputable def mc101 : ab_M := ([(2, 0, 0), (0, (-2147483648), 2147483647), (0, (-2147483648), 2147483647), (0, (-2147483648), 2147483647), (0, (-2147483648), 2147483647)], [(some (0, (-1), (-1)), [(2, 0, 0), (0, (-2147483648), 2147483647), (0, (-2147483648), 2147483647), (0, (-2147483648), 2147483647), (0, (-2147483648), 2147483647)]), (some (0, (-2), (-2)), [(2, 0, 0), (0, 0, 3), (0, (-2147483648), 2147483647), (0, (-2147483648), 2147483647), (0, (-2147483648), 2147483647)]), (some (0, (-2147483648), 2147483647), [(2, 0, 0), (0, 0, 3), (0, 0, 9999), (0, 1, 99), (0, 0, 2)])])
set_option maxRecDepth 100000 in
theorem kc101 : ab_ok ab_TT ab_sets ab_WR 3 92 mc101 := ab_chk_ok (S := ab_SL [(44, mc8), (100, mc97), (102, mc98), (102, mc100), (102, mc99), (103, mc1), (104, mc11), (188, mc34)]) (nds := [(68, ([(0, 0), (0, 3), (0, 9999), (0, 65536), (1, 99), (0, 2), (0, 35), ((-9223372036854775808), 9223372036854775807), ((-2147483648), 2147483647), (0, 99)], [some (2, 0, 0), some (0, 1, 0), some (0, 2, 0), some (0, 4, 0), some (0, 5, 0), some (0, 3, 0), some (0, 6, 0), some (1, 7, 0), none, some (0, 8, 0), some (0, 9, 0)], [], [(2, 0, 0), (0, 1, 0), (0, 2, 0), (0, 4, 0), (0, 5, 0)]), [(10, (-2))], 199)]) (mc := []) (fuel := 3000) ab_mc0 (by decide) (by decide) (ab_SLc kc8 (by decide) (ab_SLc kc97 (by decide) (ab_SLc kc98 (by decide) (ab_SLc kc100 (by decide) (ab_SLc kc99 (by decide) (ab_SLc kc1 (by decide) (ab_SLc kc11 (by decide) (ab_SLc kc34 (by decide) ab_SLn)))))))) (by decide +kernel)
/-- X9_within -/
noncomputable def mc102 : ab_M := ([(0, (-2147483648), 2147483647), (0, 10, 10), (0, 13, 13)], [(some (0, 0, 0), [(0, (-2147483648), 2147483647), (0, 10, 10), (0, 13, 13)]), (some (0, 1, 1), [(0, 10, 13), (0, 10, 10), (0, 13, 13)])])
set_option maxRecDepth 100000 in
theorem kc102 : ab_ok ab_TT ab_sets ab_WR 1 102 mc102 := ab_chk_ok (S := ab_SL []) (nds := []) (mc := []) (fuel := 3000) ab_mc0 (by decide) (by decide) ab_SLn (by decide +kernel)
/-- X9_within -/
noncomputable def mc103 : ab_M := ([(0, (-2147483648), 2147483647), (0, 20, 20), (0, 23, 23)], [(some (0, 0, 0), [(0, (-2147483648), 2147483647), (0, 20, 20), (0, 23, 23)]), (some (0, 1, 1), [(0, 20, 23), (0, 20, 20), (0, 23, 23)])])
set_option maxRecDepth 100000 in
theorem kc103 : ab_ok ab_TT ab_sets ab_WR 1 102 mc103 := ab_chk_ok (S := ab_SL []) (nds := []) (mc := []) (fuel := 3000) ab_mc0 (by decide) (by decide) ab_SLn (by decide +kernel)
/-- X9_toldOfPerson -/
noncomputable def mc104 : ab_M := ([(2, 0, 0), (0, 0, 2147483617), (0, 0, 9)], [(some (0, (-2), (-2)), [(2, 0, 0), (0, 0, 2147483617), (0, 0, 9)]), (some (0, 0, 35), [(2, 0, 0), (0, 0, 3), (0, 0, 1)])])
set_option maxRecDepth 100000 in
theorem kc104 : ab_ok ab_TT ab_sets ab_WR 3 96 mc104 := ab_chk_ok (S := ab_SL [(41, mc46), (102, mc31)]) (nds := []) (mc := []) (fuel := 3000) ab_mc0 (by decide) (by decide) (ab_SLc kc46 (by decide) (ab_SLc kc31 (by decide) ab_SLn)) (by decide +kernel)
/-- X9_told -/
noncomputable def mc105 : ab_M := ([(2, 0, 0), (0, (-2147483648), 2147483647)], [(some (0, (-2), (-2)), [(2, 0, 0), (0, (-2147483648), 2147483647)]), (some (0, (-2147483648), 2147483647), [(2, 0, 0), (0, 0, 2147483647)])])
set_option maxRecDepth 100000 in
theorem kc105 : ab_ok ab_TT ab_sets ab_WR 4 95 mc105 := ab_chk_ok (S := ab_SL [(96, mc104), (102, mc103), (102, mc102), (188, mc34)]) (nds := []) (mc := []) (fuel := 3000) ab_mc0 (by decide) (by decide) (ab_SLc kc104 (by decide) (ab_SLc kc103 (by decide) (ab_SLc kc102 (by decide) (ab_SLc kc34 (by decide) ab_SLn)))) (by decide +kernel)
/-- X2_faultOfLand -/
noncomputable def mc106 : ab_M := ([(2, 1, 0), (0, 1, 36)], [(some (0, (-6), (-6)), [(2, 1, 0), (0, 1, 36)]), (some (0, 0, 36), [(2, 1, 0), (0, 1, 36)])])
set_option maxRecDepth 100000 in
theorem kc106 : ab_ok ab_TT ab_sets ab_WR 1 12 mc106 := ab_chk_ok (S := ab_SL []) (nds := [(2, ([(0, 0), (1, 36), (0, 36)], [some (2, 1, 0), some (0, 1, 0), some (0, 2, 0)], [], [(2, 1, 0), (0, 1, 0)]), [(2, (-2))], 73)]) (mc := []) (fuel := 3000) ab_mc0 (by decide) (by decide) ab_SLn (by decide +kernel)
/-- X9_within -/
noncomputable def mc107 : ab_M := ([(0, (-2147483648), 2147483647), (0, 97, 97), (0, 102, 102)], [(some (0, 0, 0), [(0, (-2147483648), 2147483647), (0, 97, 97), (0, 102, 102)]), (some (0, 1, 1), [(0, 97, 102), (0, 97, 97), (0, 102, 102)])])
set_option maxRecDepth 100000 in
theorem kc107 : ab_ok ab_TT ab_sets ab_WR 1 102 mc107 := ab_chk_ok (S := ab_SL []) (nds := []) (mc := []) (fuel := 3000) ab_mc0 (by decide) (by decide) ab_SLn (by decide +kernel)
/-- X2_startsPart -/
noncomputable def mc108 : ab_M := ([(0, (-2147483648), 2147483647)], [(some (0, 0, 0), [(0, (-2147483648), 2147483647)]), (some (0, 1, 1), [(0, 35, 102)])])
set_option maxRecDepth 100000 in
theorem kc108 : ab_ok ab_TT ab_sets ab_WR 2 15 mc108 := ab_chk_ok (S := ab_SL [(102, mc107)]) (nds := []) (mc := []) (fuel := 3000) ab_mc0 (by decide) (by decide) (ab_SLc kc107 (by decide) ab_SLn) (by decide +kernel)
/-- X9_within -/
noncomputable def mc109 : ab_M := ([(0, (-2147483648), 2147483647), (0, 48, 48), (0, 51, 51)], [(some (0, 0, 0), [(0, (-2147483648), 2147483647), (0, 48, 48), (0, 51, 51)]), (some (0, 1, 1), [(0, 48, 51), (0, 48, 48), (0, 51, 51)])])
set_option maxRecDepth 100000 in
theorem kc109 : ab_ok ab_TT ab_sets ab_WR 1 102 mc109 := ab_chk_ok (S := ab_SL []) (nds := []) (mc := []) (fuel := 3000) ab_mc0 (by decide) (by decide) ab_SLn (by decide +kernel)
/-- X9_within -/
noncomputable def mc110 : ab_M := ([(0, (-2147483648), 2147483647), (0, 48, 48), (0, 53, 53)], [(some (0, 0, 0), [(0, (-2147483648), 2147483647), (0, 48, 48), (0, 53, 53)]), (some (0, 1, 1), [(0, 48, 53), (0, 48, 48), (0, 53, 53)])])
set_option maxRecDepth 100000 in
theorem kc110 : ab_ok ab_TT ab_sets ab_WR 1 102 mc110 := ab_chk_ok (S := ab_SL []) (nds := []) (mc := []) (fuel := 3000) ab_mc0 (by decide) (by decide) ab_SLn (by decide +kernel)
/-- X2_endsPart -/
noncomputable def mc111 : ab_M := ([(0, (-2147483648), 2147483647), (0, (-2147483648), 2147483647)], [(some (0, 0, 0), [(0, (-2147483648), 2147483647), (0, (-2147483648), 2147483647)]), (some (0, 1, 1), [(0, (-2147483648), 2147483647), (0, 48, 53)])])
set_option maxRecDepth 100000 in
theorem kc111 : ab_ok ab_TT ab_sets ab_WR 2 16 mc111 := ab_chk_ok (S := ab_SL [(102, mc110), (102, mc109)]) (nds := []) (mc := []) (fuel := 3000) ab_mc0 (by decide) (by decide) (ab_SLc kc110 (by decide) (ab_SLc kc109 (by decide) ab_SLn)) (by decide +kernel)
/-- X2_faultOfWalk -/
noncomputable def mc112 : ab_M := ([(2, 1, 0)], [(some (0, (-6), (-6)), [(2, 1, 0)]), (some (0, 0, 60), [(2, 1, 0)])])
set_option maxRecDepth 100000 in
theorem kc112 : ab_ok ab_TT ab_sets ab_WR 3 13 mc112 := ab_chk_ok (S := ab_SL [(15, mc108), (16, mc111)]) (nds := [(2, ([(0, 0), (1, 60), (1, 1)], [some (2, 1, 0), some (0, 1, 0), some (0, 2, 0)], [], [(2, 1, 0)]), [(1, (-2))], 121), (2, ([(0, 0), (0, 0)], [some (2, 1, 0), some (0, 1, 0), none], [], [(2, 1, 0)]), [(1, (-2))], 121)]) (mc := []) (fuel := 3000) ab_mc0 (by decide) (by decide) (ab_SLc kc108 (by decide) (ab_SLc kc111 (by decide) ab_SLn)) (by decide +kernel)
/-- X9_fault -/
noncomputable def mc113 : ab_M := ([(2, 0, 0), (0, (-2147483648), 2147483647)], [(some (0, (-2), (-2)), [(2, 0, 0), (0, (-2147483648), 2147483647)]), (some (0, (-6), (-6)), [(2, 0, 0), (0, 0, 1)]), (some (0, 0, 60), [(2, 0, 0), (0, 0, 1)])])
set_option maxRecDepth 100000 in
theorem kc113 : ab_ok ab_TT ab_sets ab_WR 4 63 mc113 := ab_chk_ok (S := ab_SL [(12, mc106), (13, mc112), (38, mc4), (102, mc31)]) (nds := []) (mc := []) (fuel := 3000) ab_mc0 (by decide) (by decide) (ab_SLc kc106 (by decide) (ab_SLc kc112 (by decide) (ab_SLc kc4 (by decide) (ab_SLc kc31 (by decide) ab_SLn)))) (by decide +kernel)
/-- X9_cell -/
noncomputable def mc114 : ab_M := ([(2, 0, 0), (0, (-2147483648), 2147483647)], [(some (0, (-1), (-1)), [(2, 0, 0), (0, (-2147483648), 2147483647)]), (some (0, 0, 126), [(2, 0, 0), (0, 0, 35)])])
set_option maxRecDepth 100000 in
theorem kc114 : ab_ok ab_TT ab_sets ab_WR 3 65 mc114 := ab_chk_ok (S := ab_SL [(39, mc5)]) (nds := []) (mc := []) (fuel := 3000) ab_mc0 (by decide) (by decide) (ab_SLc kc5 (by decide) ab_SLn) (by decide +kernel)
/-- X9_within -/
noncomputable def mc115 : ab_M := ([(0, (-2147483648), 2147483647), (0, 0, 0), (0, 7, 7)], [(some (0, 0, 0), [(0, (-2147483648), 2147483647), (0, 0, 0), (0, 7, 7)]), (some (0, 1, 1), [(0, 0, 7), (0, 0, 0), (0, 7, 7)])])
set_option maxRecDepth 100000 in
theorem kc115 : ab_ok ab_TT ab_sets ab_WR 1 102 mc115 := ab_chk_ok (S := ab_SL []) (nds := []) (mc := []) (fuel := 3000) ab_mc0 (by decide) (by decide) ab_SLn (by decide +kernel)
/-- J7_fill_53178 -/
noncomputable def mc116 : ab_M := ([(2, 17, 0), (0, 0, 0)], [(none, [(2, 17, 0), (0, 0, 0)])])
set_option maxRecDepth 100000 in
theorem kc116 : ab_ok ab_TT ab_sets ab_WR 1 192 mc116 := ab_chk_ok (S := ab_SL []) (nds := [(5, ([(0, 0), (0, 0), (0, 4), (4, 4)], [some (2, 17, 0), some (0, 1, 0), some (0, 2, 0), some (0, 3, 0)], [], [(2, 17, 0), (0, 1, 0)]), [(2, (-2))], 9)]) (mc := []) (fuel := 3000) ab_mc0 (by decide) (by decide) ab_SLn (by decide +kernel)
/-- X8_putOn -/
noncomputable def mc117 : ab_M := ([(2, 16, 0), (2, 3, 0), (0, (-2147483648), 2147483647)], [(some (0, 0, 5), [(2, 16, 0), (2, 3, 0), (0, (-2147483648), 2147483647)])])
set_option maxRecDepth 100000 in
theorem kc117 : ab_ok ab_TT ab_sets ab_WR 3 57 mc117 := ab_chk_ok (S := ab_SL [(103, mc1), (105, mc2)]) (nds := []) (mc := []) (fuel := 3000) ab_mc0 (by decide) (by decide) (ab_SLc kc1 (by decide) (ab_SLc kc2 (by decide) ab_SLn)) (by decide +kernel)
/-- X9_within -/
noncomputable def mc118 : ab_M := ([(0, (-2147483648), 2147483647), (0, 0, 0), (0, 0, 5)], [(some (0, 0, 0), [(0, (-2147483648), 2147483647), (0, 0, 0), (0, 0, 5)]), (some (0, 1, 1), [(0, 0, 5), (0, 0, 0), (0, 0, 5)])])
set_option maxRecDepth 100000 in
theorem kc118 : ab_ok ab_TT ab_sets ab_WR 1 102 mc118 := ab_chk_ok (S := ab_SL []) (nds := []) (mc := []) (fuel := 3000) ab_mc0 (by decide) (by decide) ab_SLn (by decide +kernel)
/-- X6_wearAt -/
noncomputable def mc119 : ab_M := ([(2, 3, 0), (0, 0, 35)], [(some (0, 1, 2), [(2, 3, 0), (0, 0, 35)])])
set_option maxRecDepth 100000 in
theorem kc119 : ab_ok ab_TT ab_sets ab_WR 1 42 mc119 := ab_chk_ok (S := ab_SL []) (nds := []) (mc := []) (fuel := 3000) ab_mc0 (by decide) (by decide) ab_SLn (by decide +kernel)
/-- X8_stride -/
noncomputable def mc120 : ab_M := ([(2, 16, 0), (2, 3, 0), (0, (-2147483648), 2147483647), (0, (-2147483648), 2147483647)], [(some (0, 0, 4), [(2, 16, 0), (2, 3, 0), (0, (-2147483648), 2147483647), (0, (-2147483648), 2147483647)])])
set_option maxRecDepth 100000 in
theorem kc120 : ab_ok ab_TT ab_sets ab_WR 4 58 mc120 := ab_chk_ok (S := ab_SL [(40, mc6), (42, mc119), (43, mc55), (102, mc118)]) (nds := []) (mc := []) (fuel := 3000) ab_mc0 (by decide) (by decide) (ab_SLc kc6 (by decide) (ab_SLc kc119 (by decide) (ab_SLc kc55 (by decide) (ab_SLc kc118 (by decide) ab_SLn)))) (by decide +kernel)
/-- X8_follow -/
noncomputable def mc121 : ab_M := ([(2, 16, 0), (2, 3, 0), (2, 1, 0)], [(none, [(2, 16, 0), (2, 3, 0), (2, 1, 0)])])
set_option maxRecDepth 100000 in
theorem kc121 : ab_ok ab_TT ab_sets ab_WR 5 56 mc121 := ab_chk_ok (S := ab_SL [(57, mc117), (58, mc120), (192, mc116)]) (nds := [(40, ([(0, 0), (0, 60)], [some (2, 16, 0), some (2, 3, 0), some (2, 1, 0), some (0, 1, 0), none, none, none], [], [(2, 16, 0), (2, 3, 0), (2, 1, 0)]), [(3, (-2))], 121)]) (mc := []) (fuel := 3000) ab_mc0 (by decide) (by decide) (ab_SLc kc117 (by decide) (ab_SLc kc120 (by decide) (ab_SLc kc116 (by decide) ab_SLn))) (by decide +kernel)
/-- X9_judge -/
noncomputable def mc122 : ab_M := ([(2, 0, 0), (0, (-2147483648), 2147483647)], [(some (0, (-2), (-2)), [(2, 0, 0), (0, (-2147483648), 2147483647)]), (some (0, (-3), (-3)), [(2, 0, 0), (0, 2, 7)]), (some (0, (-5), (-5)), [(2, 0, 0), (0, 0, 7)]), (some (0, (-2147483648), 2147483647), [(2, 0, 0), (0, 0, 7)])])
set_option maxRecDepth 100000 in
theorem kc122 : ab_ok ab_TT ab_sets ab_WR 6 70 mc122 := ab_chk_ok (S := ab_SL [(13, mc112), (56, mc121), (102, mc115)]) (nds := []) (mc := []) (fuel := 3000) ab_mc0 (by decide) (by decide) (ab_SLc kc112 (by decide) (ab_SLc kc121 (by decide) (ab_SLc kc115 (by decide) ab_SLn))) (by decide +kernel)
