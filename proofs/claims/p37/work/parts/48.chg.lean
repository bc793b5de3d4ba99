/-! ===== methods that change the state, kept in by the checker ===== -/
/-- X9_within -/
noncomputable def ms0 : ab_M := ([(0, (-2147483648), 2147483647), (0, 1, 1), (0, 6, 6)], [(some (0, 0, 0), [(0, (-2147483648), 2147483647), (0, 1, 1), (0, 6, 6)]), (some (0, 1, 1), [(0, 1, 6), (0, 1, 1), (0, 6, 6)])])
set_option maxRecDepth 100000 in
theorem ks0 : ab_ok ab_TT ab_sets ab_WR2 1 102 ms0 := ab_chk_ok (S := ab_SL []) (nds := []) (mc := []) (fuel := 3000) ab_mc0 (by decide) (by decide) ab_SLn (by decide +kernel)
/-- X9_bit -/
noncomputable def ms1 : ab_M := ([(0, (-2147483648), 2147483647)], [(some (1, (-9223372036854775808), 9223372036854775807), [(0, (-2147483648), 2147483647)])])
set_option maxRecDepth 100000 in
theorem ks1 : ab_ok ab_TT ab_sets ab_WR2 1 104 ms1 := ab_chk_ok (S := ab_SL []) (nds := []) (mc := []) (fuel := 3000) ab_mc0 (by decide) (by decide) ab_SLn (by decide +kernel)
/-- X9_has -/
noncomputable def ms2 : ab_M := ([(1, (-9223372036854775808), 9223372036854775807), (0, (-2147483648), 2147483647)], [(some (0, 0, 0), [(1, (-9223372036854775808), 9223372036854775807), (0, (-2147483648), 2147483647)]), (some (0, 1, 1), [(1, (-9223372036854775808), 9223372036854775807), (0, (-2147483648), 2147483647)])])
set_option maxRecDepth 100000 in
theorem ks2 : ab_ok ab_TT ab_sets ab_WR2 1 105 ms2 := ab_chk_ok (S := ab_SL []) (nds := []) (mc := []) (fuel := 3000) ab_mc0 (by decide) (by decide) ab_SLn (by decide +kernel)
/-- X9_leastOf -/
noncomputable def ms3 : ab_M := ([(1, (-9223372036854775808), 9223372036854775807)], [(some (0, (-6), (-6)), [(1, (-9223372036854775808), 9223372036854775807)]), (some (0, 0, 35), [(1, (-9223372036854775808), 9223372036854775807)])])
set_option maxRecDepth 100000 in
theorem ks3 : ab_ok ab_TT ab_sets ab_WR2 2 106 ms3 := ab_chk_ok (S := ab_SL [(105, ms2)]) (nds := [(2, ([(0, 0), ((-9223372036854775808), 9223372036854775807), (0, 36)], [some (1, 1, 0), none, some (0, 2, 0)], [], [(1, 1, 0)]), [(2, (-2))], 73)]) (mc := []) (fuel := 3000) ab_mc0 (by decide) (by decide) (ab_SLc ks2 (by decide) ab_SLn) (by decide +kernel)
/-- X6_size -/
noncomputable def ms4 : ab_M := ([(2, 3, 0)], [(some (0, 1, 36), [(2, 3, 0)])])
set_option maxRecDepth 100000 in
theorem ks4 : ab_ok ab_TT ab_sets ab_WR2 1 38 ms4 := ab_chk_ok (S := ab_SL []) (nds := []) (mc := []) (fuel := 3000) ab_mc0 (by decide) (by decide) ab_SLn (by decide +kernel)
/-- X6_settle -/
noncomputable def ms5 : ab_M := ([(2, 3, 0)], [(none, [(2, 3, 0)])])
set_option maxRecDepth 100000 in
theorem ks5 : ab_ok ab_TT ab_sets ab_WR2 3 36 ms5 := ab_chk_ok (S := ab_SL [(38, ms4), (104, ms1), (106, ms3)]) (nds := [(7, ([(0, 0), (0, 36)], [some (2, 3, 0), some (0, 1, 0)], [], [(2, 3, 0)]), [(1, (-2))], 73)]) (mc := []) (fuel := 3000) ab_mc0 (by decide) (by decide) (ab_SLc ks4 (by decide) (ab_SLc ks1 (by decide) (ab_SLc ks3 (by decide) ab_SLn))) (by decide +kernel)
/-- X6_makePlain -/
noncomputable def ms6 : ab_M := ([(2, 3, 0), (0, 1, 6), (0, 1, 6)], [(none, [(2, 3, 0), (0, 1, 6), (0, 1, 6)])])
set_option maxRecDepth 100000 in
theorem ks6 : ab_ok ab_TT ab_sets ab_WR2 4 34 ms6 := ab_chk_ok (S := ab_SL [(36, ms5)]) (nds := [(12, ([(0, 0), (1, 6), (1, 6), (0, 6)], [some (2, 3, 0), some (0, 1, 0), some (0, 2, 0), some (0, 3, 0), none, none], [], [(2, 3, 0), (0, 1, 0), (0, 2, 0)]), [(3, (-16))], 111), (23, ([(0, 0), (1, 6), (1, 6), (0, 5), (0, 6)], [some (2, 3, 0), some (0, 1, 0), some (0, 2, 0), some (0, 3, 0), some (0, 4, 0), none], [], [(2, 3, 0), (0, 1, 0), (0, 2, 0)]), [(3, (-16)), (4, (-2))], 109)]) (mc := []) (fuel := 3000) ab_mc0 (by decide) (by decide) (ab_SLc ks5 (by decide) ab_SLn) (by decide +kernel)
/-- X9_land -/
noncomputable def ms7 : ab_M := ([(2, 0, 0), (0, (-2147483648), 2147483647), (0, (-2147483648), 2147483647)], [(some (0, (-2), (-2)), [(2, 0, 0), (0, (-2147483648), 2147483647), (0, (-2147483648), 2147483647)]), (some (0, 1, 36), [(2, 0, 0), (0, 1, 6), (0, 1, 6)])])
set_option maxRecDepth 100000 in
theorem ks7 : ab_ok ab_TT ab_sets ab_WR2 5 60 ms7 := ab_chk_ok (S := ab_SL [(34, ms6), (38, ms4), (102, ms0)]) (nds := []) (mc := []) (fuel := 3000) ab_mc0 (by decide) (by decide) (ab_SLc ks6 (by decide) (ab_SLc ks4 (by decide) (ab_SLc ks0 (by decide) ab_SLn))) (by decide +kernel)
/-- X10_in -/
noncomputable def ms8 : ab_M := ([(1, (-9223372036854775808), 9223372036854775807), (1, 1, 1), (1, 6, 6)], [(some (0, 0, 0), [(1, (-9223372036854775808), 9223372036854775807), (1, 1, 1), (1, 6, 6)]), (some (0, 1, 1), [(1, 1, 6), (1, 1, 1), (1, 6, 6)])])
set_option maxRecDepth 100000 in
theorem ks8 : ab_ok ab_TT ab_sets ab_WR2 1 108 ms8 := ab_chk_ok (S := ab_SL []) (nds := []) (mc := []) (fuel := 3000) ab_mc0 (by decide) (by decide) ab_SLn (by decide +kernel)
/-- X10_forgetAll -/
noncomputable def ms9 : ab_M := ([(2, 65, 0), (0, 0, 35)], [(none, [(2, 65, 0), (0, 0, 35)])])
set_option maxRecDepth 100000 in
theorem ks9 : ab_ok ab_TT ab_sets ab_WR2 1 112 ms9 := ab_chk_ok (S := ab_SL []) (nds := []) (mc := []) (fuel := 3000) ab_mc0 (by decide) (by decide) ab_SLn (by decide +kernel)
/-- X10_spread -/
noncomputable def ms10 : ab_M := ([(2, 65, 0), (0, 1, 6), (0, 1, 6)], [(none, [(2, 65, 0), (0, 1, 6), (0, 1, 6)])])
set_option maxRecDepth 100000 in
theorem ks10 : ab_ok ab_TT ab_sets ab_WR2 2 111 ms10 := ab_chk_ok (S := ab_SL [(112, ms9)]) (nds := [(12, ([(0, 0), (1, 6), (1, 6), (0, 36)], [some (2, 65, 0), some (0, 1, 0), some (0, 2, 0), some (0, 3, 0)], [], [(2, 65, 0), (0, 1, 0), (0, 2, 0)]), [(3, (-2))], 73)]) (mc := []) (fuel := 3000) ab_mc0 (by decide) (by decide) (ab_SLc ks9 (by decide) ab_SLn) (by decide +kernel)
/-- X10_cells -/
noncomputable def ms11 : ab_M := ([(2, 65, 0)], [(some (0, 1, 36), [(2, 65, 0)])])
set_option maxRecDepth 100000 in
theorem ks11 : ab_ok ab_TT ab_sets ab_WR2 1 113 ms11 := ab_chk_ok (S := ab_SL []) (nds := []) (mc := []) (fuel := 3000) ab_mc0 (by decide) (by decide) ab_SLn (by decide +kernel)
/-- X10_land -/
noncomputable def ms12 : ab_M := ([(2, 65, 0), (0, (-2147483648), 2147483647), (0, (-2147483648), 2147483647)], [(some (0, (-2), (-2)), [(2, 65, 0), (0, (-2147483648), 2147483647), (0, (-2147483648), 2147483647)]), (some (0, 1, 36), [(2, 65, 0), (0, 1, 6), (0, 1, 6)])])
set_option maxRecDepth 100000 in
theorem ks12 : ab_ok ab_TT ab_sets ab_WR2 3 118 ms12 := ab_chk_ok (S := ab_SL [(108, ms8), (111, ms10), (113, ms11)]) (nds := []) (mc := []) (fuel := 3000) ab_mc0 (by decide) (by decide) (ab_SLc ks8 (by decide) (ab_SLc ks10 (by decide) (ab_SLc ks11 (by decide) ab_SLn))) (by decide +kernel)
/-- X9_wipe -/
noncomputable def ms13 : ab_M := ([(2, 0, 0)], [(some (0, 0, 60), [(2, 0, 0)])])
set_option maxRecDepth 100000 in
theorem ks13 : ab_ok ab_TT ab_sets ab_WR2 1 62 ms13 := ab_chk_ok (S := ab_SL []) (nds := []) (mc := []) (fuel := 3000) ab_mc0 (by decide) (by decide) ab_SLn (by decide +kernel)
/-- X10_wipe -/
noncomputable def ms14 : ab_M := ([(2, 65, 0)], [(some (0, 0, 60), [(2, 65, 0)])])
set_option maxRecDepth 100000 in
theorem ks14 : ab_ok ab_TT ab_sets ab_WR2 1 120 ms14 := ab_chk_ok (S := ab_SL []) (nds := []) (mc := []) (fuel := 3000) ab_mc0 (by decide) (by decide) ab_SLn (by decide +kernel)
/-- X9_within -/
noncomputable def ms15 : ab_M := ([(0, (-2147483648), 2147483647), (0, 0, 0), (0, 0, 35)], [(some (0, 0, 0), [(0, (-2147483648), 2147483647), (0, 0, 0), (0, 0, 35)]), (some (0, 1, 1), [(0, 0, 35), (0, 0, 0), (0, 0, 35)])])
set_option maxRecDepth 100000 in
theorem ks15 : ab_ok ab_TT ab_sets ab_WR2 1 102 ms15 := ab_chk_ok (S := ab_SL []) (nds := []) (mc := []) (fuel := 3000) ab_mc0 (by decide) (by decide) ab_SLn (by decide +kernel)
/-- X6_hasCell -/
noncomputable def ms16 : ab_M := ([(2, 3, 0), (0, (-2147483648), 2147483647)], [(some (0, 0, 0), [(2, 3, 0), (0, (-2147483648), 2147483647)]), (some (0, 1, 1), [(2, 3, 0), (0, 0, 35)])])
set_option maxRecDepth 100000 in
theorem ks16 : ab_ok ab_TT ab_sets ab_WR2 2 39 ms16 := ab_chk_ok (S := ab_SL [(38, ms4), (102, ms15)]) (nds := []) (mc := []) (fuel := 3000) ab_mc0 (by decide) (by decide) (ab_SLc ks4 (by decide) (ab_SLc ks15 (by decide) ab_SLn)) (by decide +kernel)
/-- X6_isDry -/
noncomputable def ms17 : ab_M := ([(2, 3, 0), (0, (-2147483648), 2147483647)], [(some (0, 0, 0), [(2, 3, 0), (0, (-2147483648), 2147483647)]), (some (0, 1, 1), [(2, 3, 0), (0, 0, 35)])])
set_option maxRecDepth 100000 in
theorem ks17 : ab_ok ab_TT ab_sets ab_WR2 3 40 ms17 := ab_chk_ok (S := ab_SL [(39, ms16), (105, ms2)]) (nds := []) (mc := []) (fuel := 3000) ab_mc0 (by decide) (by decide) (ab_SLc ks16 (by decide) (ab_SLc ks2 (by decide) ab_SLn)) (by decide +kernel)
/-- X9_home -/
noncomputable def ms18 : ab_M := ([(2, 0, 0), (0, (-2147483648), 2147483647)], [(some (0, (-1), (-1)), [(2, 0, 0), (0, (-2147483648), 2147483647)]), (some (0, (-3), (-3)), [(2, 0, 0), (0, 0, 35)]), (some (0, 0, 35), [(2, 0, 0), (0, 0, 35)])])
set_option maxRecDepth 100000 in
theorem ks18 : ab_ok ab_TT ab_sets ab_WR2 4 66 ms18 := ab_chk_ok (S := ab_SL [(39, ms16), (40, ms17)]) (nds := []) (mc := []) (fuel := 3000) ab_mc0 (by decide) (by decide) (ab_SLc ks16 (by decide) (ab_SLc ks17 (by decide) ab_SLn)) (by decide +kernel)
/-- X10_in -/
noncomputable def ms19 : ab_M := ([(1, (-9223372036854775808), 9223372036854775807), (1, 0, 0), (1, 0, 35)], [(some (0, 0, 0), [(1, (-9223372036854775808), 9223372036854775807), (1, 0, 0), (1, 0, 35)]), (some (0, 1, 1), [(1, 0, 35), (1, 0, 0), (1, 0, 35)])])
set_option maxRecDepth 100000 in
theorem ks19 : ab_ok ab_TT ab_sets ab_WR2 1 108 ms19 := ab_chk_ok (S := ab_SL []) (nds := []) (mc := []) (fuel := 3000) ab_mc0 (by decide) (by decide) ab_SLn (by decide +kernel)
/-- X10_isCell -/
noncomputable def ms20 : ab_M := ([(2, 65, 0), (0, (-2147483648), 2147483647)], [(some (0, 0, 0), [(2, 65, 0), (0, (-2147483648), 2147483647)]), (some (0, 1, 1), [(2, 65, 0), (0, 0, 35)])])
set_option maxRecDepth 100000 in
theorem ks20 : ab_ok ab_TT ab_sets ab_WR2 2 114 ms20 := ab_chk_ok (S := ab_SL [(108, ms19), (113, ms11)]) (nds := []) (mc := []) (fuel := 3000) ab_mc0 (by decide) (by decide) (ab_SLc ks19 (by decide) (ab_SLc ks11 (by decide) ab_SLn)) (by decide +kernel)
/-- X10_isLand -/
noncomputable def ms21 : ab_M := ([(2, 65, 0), (0, (-2147483648), 2147483647)], [(some (0, 0, 0), [(2, 65, 0), (0, (-2147483648), 2147483647)]), (some (0, 1, 1), [(2, 65, 0), (0, 0, 35)])])
set_option maxRecDepth 100000 in
theorem ks21 : ab_ok ab_TT ab_sets ab_WR2 3 115 ms21 := ab_chk_ok (S := ab_SL [(114, ms20)]) (nds := []) (mc := []) (fuel := 3000) ab_mc0 (by decide) (by decide) (ab_SLc ks20 (by decide) ab_SLn) (by decide +kernel)
/-- X10_home -/
noncomputable def ms22 : ab_M := ([(2, 65, 0), (0, (-2147483648), 2147483647)], [(some (0, (-1), (-1)), [(2, 65, 0), (0, (-2147483648), 2147483647)]), (some (0, (-3), (-3)), [(2, 65, 0), (0, 0, 35)]), (some (0, 0, 35), [(2, 65, 0), (0, 0, 35)])])
set_option maxRecDepth 100000 in
theorem ks22 : ab_ok ab_TT ab_sets ab_WR2 4 126 ms22 := ab_chk_ok (S := ab_SL [(114, ms20), (115, ms21)]) (nds := []) (mc := []) (fuel := 3000) ab_mc0 (by decide) (by decide) (ab_SLc ks20 (by decide) (ab_SLc ks21 (by decide) ab_SLn)) (by decide +kernel)
/-- X9_change -/
noncomputable def ms23 : ab_M := ([(2, 0, 0), (0, (-2147483648), 2147483647), (0, 0, 1)], [(some (0, (-1), (-1)), [(2, 0, 0), (0, (-2147483648), 2147483647), (0, 0, 1)]), (some (0, (-3), (-3)), [(2, 0, 0), (0, 0, 35), (0, 0, 1)]), (some (0, 1, 1), [(2, 0, 0), (0, 0, 35), (0, 0, 1)])])
set_option maxRecDepth 100000 in
theorem ks23 : ab_ok ab_TT ab_sets ab_WR2 4 67 ms23 := ab_chk_ok (S := ab_SL [(39, ms16), (40, ms17), (104, ms1)]) (nds := []) (mc := []) (fuel := 3000) ab_mc0 (by decide) (by decide) (ab_SLc ks16 (by decide) (ab_SLc ks17 (by decide) (ab_SLc ks1 (by decide) ab_SLn))) (by decide +kernel)
/-- X10_change -/
noncomputable def ms24 : ab_M := ([(2, 65, 0), (0, (-2147483648), 2147483647), (0, 0, 1)], [(some (0, (-1), (-1)), [(2, 65, 0), (0, (-2147483648), 2147483647), (0, 0, 1)]), (some (0, (-3), (-3)), [(2, 65, 0), (0, 0, 35), (0, 0, 1)]), (some (0, 1, 1), [(2, 65, 0), (0, 0, 35), (0, 0, 1)])])
set_option maxRecDepth 100000 in
theorem ks24 : ab_ok ab_TT ab_sets ab_WR2 4 127 ms24 := ab_chk_ok (S := ab_SL [(114, ms20), (115, ms21)]) (nds := []) (mc := []) (fuel := 3000) ab_mc0 (by decide) (by decide) (ab_SLc ks20 (by decide) (ab_SLc ks21 (by decide) ab_SLn)) (by decide +kernel)
/-- X9_within -/
noncomputable def ms25 : ab_M := ([(0, (-2147483648), 2147483647), (0, 0, 0), (0, 99, 99)], [(some (0, 0, 0), [(0, (-2147483648), 2147483647), (0, 0, 0), (0, 99, 99)]), (some (0, 1, 1), [(0, 0, 99), (0, 0, 0), (0, 99, 99)])])
set_option maxRecDepth 100000 in
theorem ks25 : ab_ok ab_TT ab_sets ab_WR2 1 102 ms25 := ab_chk_ok (S := ab_SL []) (nds := []) (mc := []) (fuel := 3000) ab_mc0 (by decide) (by decide) ab_SLn (by decide +kernel)
/-- X9_within -/
noncomputable def ms26 : ab_M := ([(0, (-2147483648), 2147483647), (0, 1, 1), (0, 50, 50)], [(some (0, 0, 0), [(0, (-2147483648), 2147483647), (0, 1, 1), (0, 50, 50)]), (some (0, 1, 1), [(0, 1, 50), (0, 1, 1), (0, 50, 50)])])
set_option maxRecDepth 100000 in
theorem ks26 : ab_ok ab_TT ab_sets ab_WR2 1 102 ms26 := ab_chk_ok (S := ab_SL []) (nds := []) (mc := []) (fuel := 3000) ab_mc0 (by decide) (by decide) ab_SLn (by decide +kernel)
/-- X9_within -/
noncomputable def ms27 : ab_M := ([(0, (-2147483648), 2147483647), (0, 0, 0), (0, 3, 3)], [(some (0, 0, 0), [(0, (-2147483648), 2147483647), (0, 0, 0), (0, 3, 3)]), (some (0, 1, 1), [(0, 0, 3), (0, 0, 0), (0, 3, 3)])])
set_option maxRecDepth 100000 in
theorem ks27 : ab_ok ab_TT ab_sets ab_WR2 1 102 ms27 := ab_chk_ok (S := ab_SL []) (nds := []) (mc := []) (fuel := 3000) ab_mc0 (by decide) (by decide) ab_SLn (by decide +kernel)
/-- X9_isBoots -/
noncomputable def ms28 : ab_M := ([(0, (-2147483648), 2147483647)], [(some (0, 0, 0), [(0, (-2147483648), 2147483647)]), (some (0, 1, 1), [(0, 0, 3)])])
set_option maxRecDepth 100000 in
theorem ks28 : ab_ok ab_TT ab_sets ab_WR2 2 103 ms28 := ab_chk_ok (S := ab_SL [(102, ms27)]) (nds := []) (mc := []) (fuel := 3000) ab_mc0 (by decide) (by decide) (ab_SLc ks27 (by decide) ab_SLn) (by decide +kernel)
/-- X9_put -/
noncomputable def ms29 : ab_M := ([(2, 7, 0), (0, 0, 3), (0, 1, 50)], [(some (0, (-1), (-1)), [(2, 7, 0), (0, 0, 3), (0, 1, 50)]), (some (0, 1, 50), [(2, 7, 0), (0, 0, 3), (0, 1, 50)])])
set_option maxRecDepth 100000 in
theorem ks29 : ab_ok ab_TT ab_sets ab_WR2 2 99 ms29 := ab_chk_ok (S := ab_SL [(102, ms27)]) (nds := []) (mc := []) (fuel := 3000) ab_mc0 (by decide) (by decide) (ab_SLc ks27 (by decide) ab_SLn) (by decide +kernel)
/-- X9_put -/
noncomputable def ms30 : ab_M := ([(2, 8, 0), (0, 0, 3), (0, 0, 99)], [(some (0, (-1), (-1)), [(2, 8, 0), (0, 0, 3), (0, 0, 99)]), (some (0, 0, 99), [(2, 8, 0), (0, 0, 3), (0, 0, 99)])])
set_option maxRecDepth 100000 in
theorem ks30 : ab_ok ab_TT ab_sets ab_WR2 2 99 ms30 := ab_chk_ok (S := ab_SL [(102, ms27)]) (nds := []) (mc := []) (fuel := 3000) ab_mc0 (by decide) (by decide) (ab_SLc ks27 (by decide) ab_SLn) (by decide +kernel)
/-- X9_boots -/
noncomputable def ms31 : ab_M := ([(2, 0, 0), (0, (-2147483648), 2147483647), (0, (-2147483648), 2147483647), (0, (-2147483648), 2147483647)], [(some (0, (-1), (-1)), [(2, 0, 0), (0, (-2147483648), 2147483647), (0, (-2147483648), 2147483647), (0, (-2147483648), 2147483647)]), (some (0, (-2), (-2)), [(2, 0, 0), (0, 0, 3), (0, (-2147483648), 2147483647), (0, (-2147483648), 2147483647)]), (some (0, 0, 99), [(2, 0, 0), (0, 0, 3), (0, 0, 1), (0, 0, 99)])])
set_option maxRecDepth 100000 in
theorem ks31 : ab_ok ab_TT ab_sets ab_WR2 3 68 ms31 := ab_chk_ok (S := ab_SL [(99, ms29), (99, ms30), (102, ms26), (102, ms25), (103, ms28)]) (nds := []) (mc := []) (fuel := 3000) ab_mc0 (by decide) (by decide) (ab_SLc ks29 (by decide) (ab_SLc ks30 (by decide) (ab_SLc ks26 (by decide) (ab_SLc ks25 (by decide) (ab_SLc ks28 (by decide) ab_SLn))))) (by decide +kernel)
/-- X10_in -/
noncomputable def ms32 : ab_M := ([(1, (-9223372036854775808), 9223372036854775807), (1, 0, 0), (1, 1, 1)], [(some (0, 0, 0), [(1, (-9223372036854775808), 9223372036854775807), (1, 0, 0), (1, 1, 1)]), (some (0, 1, 1), [(1, 0, 1), (1, 0, 0), (1, 1, 1)])])
set_option maxRecDepth 100000 in
theorem ks32 : ab_ok ab_TT ab_sets ab_WR2 1 108 ms32 := ab_chk_ok (S := ab_SL []) (nds := []) (mc := []) (fuel := 3000) ab_mc0 (by decide) (by decide) ab_SLn (by decide +kernel)
/-- X10_in -/
noncomputable def ms33 : ab_M := ([(1, (-9223372036854775808), 9223372036854775807), (1, 0, 0), (1, 99, 99)], [(some (0, 0, 0), [(1, (-9223372036854775808), 9223372036854775807), (1, 0, 0), (1, 99, 99)]), (some (0, 1, 1), [(1, 0, 99), (1, 0, 0), (1, 99, 99)])])
set_option maxRecDepth 100000 in
theorem ks33 : ab_ok ab_TT ab_sets ab_WR2 1 108 ms33 := ab_chk_ok (S := ab_SL []) (nds := []) (mc := []) (fuel := 3000) ab_mc0 (by decide) (by decide) ab_SLn (by decide +kernel)
/-- X10_in -/
noncomputable def ms34 : ab_M := ([(1, (-9223372036854775808), 9223372036854775807), (1, 1, 1), (1, 50, 50)], [(some (0, 0, 0), [(1, (-9223372036854775808), 9223372036854775807), (1, 1, 1), (1, 50, 50)]), (some (0, 1, 1), [(1, 1, 50), (1, 1, 1), (1, 50, 50)])])
set_option maxRecDepth 100000 in
theorem ks34 : ab_ok ab_TT ab_sets ab_WR2 1 108 ms34 := ab_chk_ok (S := ab_SL []) (nds := []) (mc := []) (fuel := 3000) ab_mc0 (by decide) (by decide) ab_SLn (by decide +kernel)
/-- X10_in -/
noncomputable def ms35 : ab_M := ([(1, (-9223372036854775808), 9223372036854775807), (1, 0, 0), (1, 3, 3)], [(some (0, 0, 0), [(1, (-9223372036854775808), 9223372036854775807), (1, 0, 0), (1, 3, 3)]), (some (0, 1, 1), [(1, 0, 3), (1, 0, 0), (1, 3, 3)])])
set_option maxRecDepth 100000 in
theorem ks35 : ab_ok ab_TT ab_sets ab_WR2 1 108 ms35 := ab_chk_ok (S := ab_SL []) (nds := []) (mc := []) (fuel := 3000) ab_mc0 (by decide) (by decide) ab_SLn (by decide +kernel)
/-- X10_areBoots -/
noncomputable def ms36 : ab_M := ([(0, (-2147483648), 2147483647)], [(some (0, 0, 0), [(0, (-2147483648), 2147483647)]), (some (0, 1, 1), [(0, 0, 3)])])
set_option maxRecDepth 100000 in
theorem ks36 : ab_ok ab_TT ab_sets ab_WR2 2 116 ms36 := ab_chk_ok (S := ab_SL [(108, ms35)]) (nds := []) (mc := []) (fuel := 3000) ab_mc0 (by decide) (by decide) (ab_SLc ks35 (by decide) ab_SLn) (by decide +kernel)
/-- X10_boots -/
noncomputable def ms37 : ab_M := ([(2, 65, 0), (0, (-2147483648), 2147483647), (0, (-2147483648), 2147483647), (0, (-2147483648), 2147483647)], [(some (0, (-1), (-1)), [(2, 65, 0), (0, (-2147483648), 2147483647), (0, (-2147483648), 2147483647), (0, (-2147483648), 2147483647)]), (some (0, (-2), (-2)), [(2, 65, 0), (0, 0, 3), (0, (-2147483648), 2147483647), (0, (-2147483648), 2147483647)]), (some (0, 0, 99), [(2, 65, 0), (0, 0, 3), (0, 0, 1), (0, 0, 99)])])
set_option maxRecDepth 100000 in
theorem ks37 : ab_ok ab_TT ab_sets ab_WR2 3 128 ms37 := ab_chk_ok (S := ab_SL [(108, ms34), (108, ms33), (108, ms32), (116, ms36)]) (nds := []) (mc := []) (fuel := 3000) ab_mc0 (by decide) (by decide) (ab_SLc ks34 (by decide) (ab_SLc ks33 (by decide) (ab_SLc ks32 (by decide) (ab_SLc ks36 (by decide) ab_SLn)))) (by decide +kernel)
/-- X9_within -/
noncomputable def ms38 : ab_M := ([(0, (-2147483648), 2147483647), (0, 0, 0), (0, 1, 1)], [(some (0, 0, 0), [(0, (-2147483648), 2147483647), (0, 0, 0), (0, 1, 1)]), (some (0, 1, 1), [(0, 0, 1), (0, 0, 0), (0, 1, 1)])])
set_option maxRecDepth 100000 in
theorem ks38 : ab_ok ab_TT ab_sets ab_WR2 1 102 ms38 := ab_chk_ok (S := ab_SL []) (nds := []) (mc := []) (fuel := 3000) ab_mc0 (by decide) (by decide) ab_SLn (by decide +kernel)
/-- X9_within -/
noncomputable def ms39 : ab_M := ([(0, (-2147483648), 2147483647), (0, 1, 1), (0, 9, 9)], [(some (0, 0, 0), [(0, (-2147483648), 2147483647), (0, 1, 1), (0, 9, 9)]), (some (0, 1, 1), [(0, 1, 9), (0, 1, 1), (0, 9, 9)])])
set_option maxRecDepth 100000 in
theorem ks39 : ab_ok ab_TT ab_sets ab_WR2 1 102 ms39 := ab_chk_ok (S := ab_SL []) (nds := []) (mc := []) (fuel := 3000) ab_mc0 (by decide) (by decide) ab_SLn (by decide +kernel)
/-- X9_put -/
noncomputable def ms40 : ab_M := ([(2, 9, 0), (0, 0, 1), (0, 1, 9)], [(some (0, (-1), (-1)), [(2, 9, 0), (0, 0, 1), (0, 1, 9)]), (some (0, 1, 9), [(2, 9, 0), (0, 0, 1), (0, 1, 9)])])
set_option maxRecDepth 100000 in
theorem ks40 : ab_ok ab_TT ab_sets ab_WR2 2 99 ms40 := ab_chk_ok (S := ab_SL [(102, ms38)]) (nds := []) (mc := []) (fuel := 3000) ab_mc0 (by decide) (by decide) (ab_SLc ks38 (by decide) ab_SLn) (by decide +kernel)
/-- X9_minutes -/
noncomputable def ms41 : ab_M := ([(2, 0, 0), (0, (-2147483648), 2147483647), (0, (-2147483648), 2147483647)], [(some (0, (-1), (-1)), [(2, 0, 0), (0, 0, 1), (0, 1, 9)]), (some (0, (-2), (-2)), [(2, 0, 0), (0, (-2147483648), 2147483647), (0, (-2147483648), 2147483647)]), (some (0, 1, 9), [(2, 0, 0), (0, 0, 1), (0, 1, 9)])])
set_option maxRecDepth 100000 in
theorem ks41 : ab_ok ab_TT ab_sets ab_WR2 3 69 ms41 := ab_chk_ok (S := ab_SL [(99, ms40), (102, ms38), (102, ms39)]) (nds := []) (mc := []) (fuel := 3000) ab_mc0 (by decide) (by decide) (ab_SLc ks40 (by decide) (ab_SLc ks38 (by decide) (ab_SLc ks39 (by decide) ab_SLn))) (by decide +kernel)
/-- X10_in -/
noncomputable def ms42 : ab_M := ([(1, (-9223372036854775808), 9223372036854775807), (1, 1, 1), (1, 9, 9)], [(some (0, 0, 0), [(1, (-9223372036854775808), 9223372036854775807), (1, 1, 1), (1, 9, 9)]), (some (0, 1, 1), [(1, 1, 9), (1, 1, 1), (1, 9, 9)])])
set_option maxRecDepth 100000 in
theorem ks42 : ab_ok ab_TT ab_sets ab_WR2 1 108 ms42 := ab_chk_ok (S := ab_SL []) (nds := []) (mc := []) (fuel := 3000) ab_mc0 (by decide) (by decide) ab_SLn (by decide +kernel)
/-- X10_minutes -/
noncomputable def ms43 : ab_M := ([(2, 65, 0), (0, (-2147483648), 2147483647), (0, (-2147483648), 2147483647)], [(some (0, (-2), (-2)), [(2, 65, 0), (0, (-2147483648), 2147483647), (0, (-2147483648), 2147483647)]), (some (0, 1, 9), [(2, 65, 0), (0, 0, 1), (0, 1, 9)])])
set_option maxRecDepth 100000 in
theorem ks43 : ab_ok ab_TT ab_sets ab_WR2 2 129 ms43 := ab_chk_ok (S := ab_SL [(108, ms42), (108, ms32)]) (nds := []) (mc := []) (fuel := 3000) ab_mc0 (by decide) (by decide) (ab_SLc ks42 (by decide) (ab_SLc ks32 (by decide) ab_SLn)) (by decide +kernel)
/-- J6_bitCount_0f7a4 -/
noncomputable def ms44 : ab_M := ([(0, (-2147483648), 2147483647)], [(some (0, 0, 63), [(0, (-2147483648), 2147483647)])])
set_option maxRecDepth 100000 in
theorem ks44 : ab_ok ab_TT ab_sets ab_WR2 1 187 ms44 := ab_chk_ok (S := ab_SL []) (nds := []) (mc := []) (fuel := 3000) ab_mc0 (by decide) (by decide) ab_SLn (by decide +kernel)
/-- X9_person -/
noncomputable def ms45 : ab_M := ([(2, 0, 0), (0, (-2147483648), 2147483647), (0, (-2147483648), 2147483647), (0, (-2147483648), 2147483647)], [(some (0, (-1), (-1)), [(2, 0, 0), (0, (-2147483648), 2147483647), (0, (-2147483648), 2147483647), (0, (-2147483648), 2147483647)]), (some (0, 0, 63), [(2, 0, 0), (0, 0, 3), (0, 0, 35), (0, 0, 3)])])
set_option maxRecDepth 100000 in
theorem ks45 : ab_ok ab_TT ab_sets ab_WR2 4 79 ms45 := ab_chk_ok (S := ab_SL [(40, ms17), (102, ms27), (103, ms28), (187, ms44)]) (nds := []) (mc := []) (fuel := 3000) ab_mc0 (by decide) (by decide) (ab_SLc ks17 (by decide) (ab_SLc ks27 (by decide) (ab_SLc ks28 (by decide) (ab_SLc ks44 (by decide) ab_SLn)))) (by decide +kernel)
/-- X10_isPerson -/
noncomputable def ms47 : ab_M := ([(2, 65, 0), (0, (-2147483648), 2147483647)], [(some (0, 0, 0), [(2, 65, 0), (0, (-2147483648), 2147483647)]), (some (0, 1, 1), [(2, 65, 0), (0, 0, 3)])])
set_option maxRecDepth 100000 in
theorem ks47 : ab_ok ab_TT ab_sets ab_WR2 2 156 ms47 := ab_chk_ok (S := ab_SL [(108, ms35)]) (nds := []) (mc := []) (fuel := 3000) ab_mc0 (by decide) (by decide) (ab_SLc ks35 (by decide) ab_SLn) (by decide +kernel)
/-- X10_person -/
noncomputable def ms48 : ab_M := ([(2, 65, 0), (0, (-2147483648), 2147483647), (0, (-2147483648), 2147483647), (0, (-2147483648), 2147483647)], [(some (0, (-1), (-1)), [(2, 65, 0), (0, (-2147483648), 2147483647), (0, (-2147483648), 2147483647), (0, (-2147483648), 2147483647)]), (some (0, 0, 64), [(2, 65, 0), (0, 0, 3), (0, 0, 35), (0, 0, 3)])])
set_option maxRecDepth 100000 in
theorem ks48 : ab_ok ab_TT ab_sets ab_WR2 4 157 ms48 := ab_chk_ok (S := ab_SL [(109, m_ones), (115, ms21), (116, ms36), (156, ms47)]) (nds := []) (mc := []) (fuel := 3000) ab_mc0 (by decide) (by decide) (ab_SLc k_ones2 (by decide) (ab_SLc ks21 (by decide) (ab_SLc ks36 (by decide) (ab_SLc ks47 (by decide) ab_SLn)))) (by decide +kernel)
/-- X6_isThere -/
noncomputable def ms49 : ab_M := ([(2, 3, 0), (0, (-2147483648), 2147483647)], [(some (0, 0, 0), [(2, 3, 0), (0, (-2147483648), 2147483647)]), (some (0, 1, 1), [(2, 3, 0), (0, 0, 3)])])
set_option maxRecDepth 100000 in
theorem ks49 : ab_ok ab_TT ab_sets ab_WR2 2 41 ms49 := ab_chk_ok (S := ab_SL [(102, ms27)]) (nds := []) (mc := []) (fuel := 3000) ab_mc0 (by decide) (by decide) (ab_SLc ks27 (by decide) ab_SLn) (by decide +kernel)
/-- X9_leave -/
noncomputable def ms50 : ab_M := ([(2, 0, 0), (0, (-2147483648), 2147483647)], [(some (0, (-1), (-1)), [(2, 0, 0), (0, (-2147483648), 2147483647)]), (some (0, 0, 63), [(2, 0, 0), (0, 0, 3)])])
set_option maxRecDepth 100000 in
theorem ks50 : ab_ok ab_TT ab_sets ab_WR2 3 80 ms50 := ab_chk_ok (S := ab_SL [(41, ms49), (187, ms44)]) (nds := []) (mc := []) (fuel := 3000) ab_mc0 (by decide) (by decide) (ab_SLc ks49 (by decide) (ab_SLc ks44 (by decide) ab_SLn)) (by decide +kernel)
/-- X10_leave -/
noncomputable def ms51 : ab_M := ([(2, 65, 0), (0, (-2147483648), 2147483647)], [(some (0, (-1), (-1)), [(2, 65, 0), (0, (-2147483648), 2147483647)]), (some (0, 0, 64), [(2, 65, 0), (0, 0, 3)])])
set_option maxRecDepth 100000 in
theorem ks51 : ab_ok ab_TT ab_sets ab_WR2 3 158 ms51 := ab_chk_ok (S := ab_SL [(109, m_ones), (156, ms47)]) (nds := []) (mc := []) (fuel := 3000) ab_mc0 (by decide) (by decide) (ab_SLc k_ones2 (by decide) (ab_SLc ks47 (by decide) ab_SLn)) (by decide +kernel)
/-- X9_forget -/
noncomputable def ms52 : ab_M := ([(2, 0, 0)], [(some (0, 0, 8), [(2, 0, 0)])])
set_option maxRecDepth 100000 in
theorem ks52 : ab_ok ab_TT ab_sets ab_WR2 1 84 ms52 := ab_chk_ok (S := ab_SL []) (nds := []) (mc := []) (fuel := 3000) ab_mc0 (by decide) (by decide) ab_SLn (by decide +kernel)
/-- X10_forget -/
noncomputable def ms53 : ab_M := ([(2, 65, 0)], [(some (0, 0, 8), [(2, 65, 0)])])
set_option maxRecDepth 100000 in
theorem ks53 : ab_ok ab_TT ab_sets ab_WR2 1 162 ms53 := ab_chk_ok (S := ab_SL []) (nds := []) (mc := []) (fuel := 3000) ab_mc0 (by decide) (by decide) ab_SLn (by decide +kernel)
/-- X2_faultOfLand -/
noncomputable def ms54 : ab_M := ([(2, 1, 0), (0, 1, 36)], [(some (0, (-6), (-6)), [(2, 1, 0), (0, 1, 36)]), (some (0, 0, 36), [(2, 1, 0), (0, 1, 36)])])
set_option maxRecDepth 100000 in
theorem ks54 : ab_ok ab_TT ab_sets ab_WR2 1 12 ms54 := ab_chk_ok (S := ab_SL []) (nds := [(2, ([(0, 0), (1, 36), (0, 36)], [some (2, 1, 0), some (0, 1, 0), some (0, 2, 0)], [], [(2, 1, 0), (0, 1, 0)]), [(2, (-2))], 73)]) (mc := []) (fuel := 3000) ab_mc0 (by decide) (by decide) ab_SLn (by decide +kernel)
/-- X2_tellsDry -/
noncomputable def ms55 : ab_M := ([(2, 1, 0)], [(some (0, 0, 0), [(2, 1, 0)]), (some (0, 1, 1), [(2, 1, 0)])])
set_option maxRecDepth 100000 in
theorem ks55 : ab_ok ab_TT ab_sets ab_WR2 1 14 ms55 := ab_chk_ok (S := ab_SL []) (nds := [(2, ([(0, 0), (0, 60)], [some (2, 1, 0), some (0, 1, 0)], [], [(2, 1, 0)]), [(1, (-2))], 121)]) (mc := []) (fuel := 3000) ab_mc0 (by decide) (by decide) ab_SLn (by decide +kernel)
/-- J13_bitCount_95d88 -/
noncomputable def ms56 : ab_M := ([(1, (-9223372036854775808), 9223372036854775807)], [(some (0, 0, 127), [(1, (-9223372036854775808), 9223372036854775807)])])
set_option maxRecDepth 100000 in
theorem ks56 : ab_ok ab_TT ab_sets ab_WR2 1 188 ms56 := ab_chk_ok (S := ab_SL []) (nds := []) (mc := []) (fuel := 3000) ab_mc0 (by decide) (by decide) ab_SLn (by decide +kernel)
/-- X6_takeSigns -/
noncomputable def ms57 : ab_M := ([(2, 3, 0), (2, 2, 0)], [(none, [(2, 3, 0), (2, 2, 0)])])
set_option maxRecDepth 100000 in
theorem ks57 : ab_ok ab_TT ab_sets ab_WR2 4 35 ms57 := ab_chk_ok (S := ab_SL [(36, ms5), (38, ms4)]) (nds := [(2, ([(0, 0), (0, 36)], [some (2, 3, 0), some (2, 2, 0), some (0, 1, 0)], [], [(2, 3, 0), (2, 2, 0)]), [(2, (-2))], 73)]) (mc := []) (fuel := 3000) ab_mc0 (by decide) (by decide) (ab_SLc ks5 (by decide) (ab_SLc ks4 (by decide) ab_SLn)) (by decide +kernel)
/-- X9_lay -/
noncomputable def ms58 : ab_M := ([(2, 0, 0)], [(some (0, (-3), (-3)), [(2, 0, 0)]), (some (0, (-5), (-5)), [(2, 0, 0)]), (some (0, 0, 127), [(2, 0, 0)])])
set_option maxRecDepth 100000 in
theorem ks58 : ab_ok ab_TT ab_sets ab_WR2 5 64 ms58 := ab_chk_ok (S := ab_SL [(12, ms54), (14, ms55), (35, ms57), (38, ms4), (188, ms56)]) (nds := []) (mc := []) (fuel := 3000) ab_mc0 (by decide) (by decide) (ab_SLc ks54 (by decide) (ab_SLc ks55 (by decide) (ab_SLc ks57 (by decide) (ab_SLc ks4 (by decide) (ab_SLc ks56 (by decide) ab_SLn))))) (by decide +kernel)
/-- X6_copy -/
noncomputable def ms59 : ab_M := ([(2, 3, 0), (2, 43, 0)], [(none, [(2, 3, 0), (2, 43, 0)])])
set_option maxRecDepth 100000 in
theorem ks59 : ab_ok ab_TT ab_sets ab_WR2 1 37 ms59 := ab_chk_ok (S := ab_SL []) (nds := []) (mc := []) (fuel := 3000) ab_mc0 (by decide) (by decide) ab_SLn (by decide +kernel)
/-- X6_copy -/
noncomputable def ms60 : ab_M := ([(2, 3, 0), (2, 54, 0)], [(none, [(2, 3, 0), (2, 54, 0)])])
set_option maxRecDepth 100000 in
theorem ks60 : ab_ok ab_TT ab_sets ab_WR2 1 37 ms60 := ab_chk_ok (S := ab_SL []) (nds := []) (mc := []) (fuel := 3000) ab_mc0 (by decide) (by decide) ab_SLn (by decide +kernel)
/-- X6_copy -/
noncomputable def ms61 : ab_M := ([(2, 43, 0), (2, 3, 0)], [(none, [(2, 43, 0), (2, 3, 0)])])
set_option maxRecDepth 100000 in
theorem ks61 : ab_ok ab_TT ab_sets ab_WR2 1 37 ms61 := ab_chk_ok (S := ab_SL []) (nds := []) (mc := []) (fuel := 3000) ab_mc0 (by decide) (by decide) ab_SLn (by decide +kernel)
/-- X6_copy -/
noncomputable def ms62 : ab_M := ([(2, 54, 0), (2, 3, 0)], [(none, [(2, 54, 0), (2, 3, 0)])])
set_option maxRecDepth 100000 in
theorem ks62 : ab_ok ab_TT ab_sets ab_WR2 1 37 ms62 := ab_chk_ok (S := ab_SL []) (nds := []) (mc := []) (fuel := 3000) ab_mc0 (by decide) (by decide) ab_SLn (by decide +kernel)
