/-! ===== methods kept in by the checker ===== -/
/-- X10_in -/
noncomputable def mg0 : ab_M := ([(1, (-9223372036854775808), 9223372036854775807), (1, 0, 0), (1, 0, 35)], [(some (0, 0, 0), [(1, (-9223372036854775808), 9223372036854775807), (1, 0, 0), (1, 0, 35)]), (some (0, 1, 1), [(1, 0, 35), (1, 0, 0), (1, 0, 35)])])
set_option maxRecDepth 100000 in
theorem kg0 : ab_ok ab_TT ab_sets ab_WR 1 108 mg0 := ab_chk_ok (S := ab_SL []) (nds := []) (mc := []) (fuel := 3000) ab_mc0 (by decide) (by decide) ab_SLn (by decide +kernel)
/-- X10_cells -/
noncomputable def mg1 : ab_M := ([(2, 65, 0)], [(some (0, 1, 36), [(2, 65, 0)])])
set_option maxRecDepth 100000 in
theorem kg1 : ab_ok ab_TT ab_sets ab_WR 1 113 mg1 := ab_chk_ok (S := ab_SL []) (nds := []) (mc := []) (fuel := 3000) ab_mc0 (by decide) (by decide) ab_SLn (by decide +kernel)
/-- X10_isCell -/
noncomputable def mg2 : ab_M := ([(2, 65, 0), (0, (-2147483648), 2147483647)], [(some (0, 0, 0), [(2, 65, 0), (0, (-2147483648), 2147483647)]), (some (0, 1, 1), [(2, 65, 0), (0, 0, 35)])])
set_option maxRecDepth 100000 in
theorem kg2 : ab_ok ab_TT ab_sets ab_WR 2 114 mg2 := ab_chk_ok (S := ab_SL [(108, mg0), (113, mg1)]) (nds := []) (mc := []) (fuel := 3000) ab_mc0 (by decide) (by decide) (ab_SLc kg0 (by decide) (ab_SLc kg1 (by decide) ab_SLn)) (by decide +kernel)
/-- X10_isLand -/
noncomputable def mg3 : ab_M := ([(2, 65, 0), (0, (-2147483648), 2147483647)], [(some (0, 0, 0), [(2, 65, 0), (0, (-2147483648), 2147483647)]), (some (0, 1, 1), [(2, 65, 0), (0, 0, 35)])])
set_option maxRecDepth 100000 in
theorem kg3 : ab_ok ab_TT ab_sets ab_WR 3 115 mg3 := ab_chk_ok (S := ab_SL [(114, mg2)]) (nds := []) (mc := []) (fuel := 3000) ab_mc0 (by decide) (by decide) (ab_SLc kg2 (by decide) ab_SLn) (by decide +kernel)
/-- X10_in -/
noncomputable def mg4 : ab_M := ([(1, (-9223372036854775808), 9223372036854775807), (1, 0, 0), (1, 3, 3)], [(some (0, 0, 0), [(1, (-9223372036854775808), 9223372036854775807), (1, 0, 0), (1, 3, 3)]), (some (0, 1, 1), [(1, 0, 3), (1, 0, 0), (1, 3, 3)])])
set_option maxRecDepth 100000 in
theorem kg4 : ab_ok ab_TT ab_sets ab_WR 1 108 mg4 := ab_chk_ok (S := ab_SL []) (nds := []) (mc := []) (fuel := 3000) ab_mc0 (by decide) (by decide) ab_SLn (by decide +kernel)
/-- X10_areBoots -/
noncomputable def mg5 : ab_M := ([(0, (-2147483648), 2147483647)], [(some (0, 0, 0), [(0, (-2147483648), 2147483647)]), (some (0, 1, 1), [(0, 0, 3)])])
set_option maxRecDepth 100000 in
theorem kg5 : ab_ok ab_TT ab_sets ab_WR 2 116 mg5 := ab_chk_ok (S := ab_SL [(108, mg4)]) (nds := []) (mc := []) (fuel := 3000) ab_mc0 (by decide) (by decide) (ab_SLc kg4 (by decide) ab_SLn) (by decide +kernel)
/-- X10_square -/
noncomputable def mg6 : ab_M := ([(2, 65, 0), (0, 0, 35), (0, 0, 35)], [(some (0, (-1250), 1250), [(2, 65, 0), (0, 0, 35), (0, 0, 35)])])
set_option maxRecDepth 100000 in
theorem kg6 : ab_ok ab_TT ab_sets ab_WR 1 130 mg6 := ab_chk_ok (S := ab_SL []) (nds := []) (mc := []) (fuel := 3000) ab_mc0 (by decide) (by decide) ab_SLn (by decide +kernel)
/-- X10_leadsBy -/
noncomputable def mg7 : ab_M := ([(2, 65, 0), (0, 0, 50), (0, 0, 35)], [(some (1, 0, 68719476735), [(2, 65, 0), (0, 0, 50), (0, 0, 35)])])
set_option maxRecDepth 100000 in
theorem kg7 : ab_ok ab_TT ab_sets ab_WR 4 131 mg7 := ab_chk_ok (S := ab_SL [(113, mg1), (115, mg3), (130, mg6)]) (nds := [(5, ([(0, 0), (0, 50), (0, 35), (0, 68719476735), (0, 36)], [some (2, 65, 0), some (0, 1, 0), some (0, 2, 0), some (1, 3, 0), none, some (0, 4, 0)], [], [(2, 65, 0), (0, 1, 0), (0, 2, 0)]), [(5, (-2))], 73)]) (mc := [(38, mc_lshl 39), (43, mc_lor 44)]) (fuel := 3000) (mc_1 (mc_lshlH 39 rfl rfl) (mc_1 (mc_lorH 44 rfl rfl) ab_mc0)) (by decide) (by decide) (ab_SLc kg1 (by decide) (ab_SLc kg3 (by decide) (ab_SLc kg6 (by decide) ab_SLn))) (by decide +kernel)
/-- X10_leads -/
noncomputable def mg8 : ab_M := ([(2, 65, 0), (0, (-2147483648), 2147483647), (0, (-2147483648), 2147483647)], [(some (1, (-1000000000000000001), (-1000000000000000001)), [(2, 65, 0), (0, (-2147483648), 2147483647), (0, (-2147483648), 2147483647)]), (some (1, 0, 68719476735), [(2, 65, 0), (0, 0, 3), (0, 0, 35)])])
set_option maxRecDepth 100000 in
theorem kg8 : ab_ok ab_TT ab_sets ab_WR 5 140 mg8 := ab_chk_ok (S := ab_SL [(115, mg3), (116, mg5), (131, mg7)]) (nds := []) (mc := []) (fuel := 3000) ab_mc0 (by decide) (by decide) (ab_SLc kg3 (by decide) (ab_SLc kg5 (by decide) (ab_SLc kg7 (by decide) ab_SLn))) (by decide +kernel)
/-- X10_strides -/
noncomputable def mg9 : ab_M := ([(2, 65, 0), (0, (-2147483648), 2147483647)], [(some (0, (-1), (-1)), [(2, 65, 0), (0, (-2147483648), 2147483647)]), (some (0, (-2147483648), 2147483647), [(2, 65, 0), (0, 0, 3)])])
set_option maxRecDepth 100000 in
theorem kg9 : ab_ok ab_TT ab_sets ab_WR 3 141 mg9 := ab_chk_ok (S := ab_SL [(116, mg5)]) (nds := [(14, ([(0, 0), (0, 3), ((-2147483648), 2147483647), ((-7), 8)], [some (2, 65, 0), some (0, 1, 0), some (0, 2, 0), some (0, 3, 0), none], [], [(2, 65, 0), (0, 1, 0)]), [(3, (-34))], 305), (24, ([(0, 0), (0, 3), ((-2147483648), 2147483647), ((-7), 7), ((-7), 8)], [some (2, 65, 0), some (0, 1, 0), some (0, 2, 0), some (0, 3, 0), some (0, 4, 0)], [], [(2, 65, 0), (0, 1, 0)]), [(3, (-34)), (4, (-2))], 289)]) (mc := []) (fuel := 3000) ab_mc0 (by decide) (by decide) (ab_SLc kg5 (by decide) ab_SLn) (by decide +kernel)
/-- X10_layBy -/
noncomputable def mg10 : ab_M := ([(2, 65, 0), (0, 1, 50)], [(none, [(2, 65, 0), (0, 1, 50)])])
set_option maxRecDepth 100000 in
theorem kg10 : ab_ok ab_TT ab_sets ab_WR 5 132 mg10 := ab_chk_ok (S := ab_SL [(113, mg1), (115, mg3), (131, mg7)]) (nds := [(2, ([(0, 0), (1, 50), (0, 36)], [some (2, 65, 0), some (0, 1, 0), some (0, 2, 0)], [], [(2, 65, 0), (0, 1, 0)]), [(2, (-2))], 73)]) (mc := []) (fuel := 3000) ab_mc0 (by decide) (by decide) (ab_SLc kg1 (by decide) (ab_SLc kg3 (by decide) (ab_SLc kg7 (by decide) ab_SLn))) (by decide +kernel)
/-- X10_putOn -/
noncomputable def mg11 : ab_M := ([(2, 65, 0), (0, 0, 3)], [(none, [(2, 65, 0), (0, 0, 3)])])
set_option maxRecDepth 100000 in
theorem kg11 : ab_ok ab_TT ab_sets ab_WR 6 133 mg11 := ab_chk_ok (S := ab_SL [(132, mg10)]) (nds := []) (mc := []) (fuel := 3000) ab_mc0 (by decide) (by decide) (ab_SLc kg10 (by decide) ab_SLn) (by decide +kernel)
/-- X10_reached -/
noncomputable def mg13 : ab_M := ([(2, 65, 0), (0, (-2147483648), 2147483647), (0, (-2147483648), 2147483647)], [(some (1, (-1000000000000000001), (-1000000000000000001)), [(2, 65, 0), (0, (-2147483648), 2147483647), (0, (-2147483648), 2147483647)]), (some (1, (-9223372036854775808), 9223372036854775807), [(2, 65, 0), (0, 0, 3), (0, 0, 35)])])
set_option maxRecDepth 100000 in
theorem kg13 : ab_ok ab_TT ab_sets ab_WR 7 145 mg13 := ab_chk_ok (S := ab_SL [(113, mg1), (115, mg3), (116, mg5), (133, mg11), (142, m_findFar)]) (nds := [(34, ([(0, 0), (0, 3), (0, 35), ((-9223372036854775808), 9223372036854775807), (0, 36)], [some (2, 65, 0), some (0, 1, 0), some (0, 2, 0), some (1, 3, 0), none, some (0, 4, 0)], [], [(2, 65, 0), (0, 1, 0), (0, 2, 0)]), [(5, (-2))], 73)]) (mc := []) (fuel := 3000) ab_mc0 (by decide) (by decide) (ab_SLc kg1 (by decide) (ab_SLc kg3 (by decide) (ab_SLc kg5 (by decide) (ab_SLc kg11 (by decide) (ab_SLc k_findFar (by decide) ab_SLn))))) (by decide +kernel)
/-- X10_in -/
noncomputable def mg14 : ab_M := ([(1, (-9223372036854775808), 9223372036854775807), (1, 0, 0), (1, 1, 1)], [(some (0, 0, 0), [(1, (-9223372036854775808), 9223372036854775807), (1, 0, 0), (1, 1, 1)]), (some (0, 1, 1), [(1, 0, 1), (1, 0, 0), (1, 1, 1)])])
set_option maxRecDepth 100000 in
theorem kg14 : ab_ok ab_TT ab_sets ab_WR 1 108 mg14 := ab_chk_ok (S := ab_SL []) (nds := []) (mc := []) (fuel := 3000) ab_mc0 (by decide) (by decide) ab_SLn (by decide +kernel)
/-- X10_meet -/
noncomputable def mg15 : ab_M := ([(2, 65, 0), (0, (-2147483648), 2147483647)], [(some (0, (-2), (-2)), [(2, 65, 0), (0, (-2147483648), 2147483647)]), (some (0, (-3), (-3)), [(2, 65, 0), (0, 0, 1)]), (some (0, (-6), 100000), [(2, 65, 0), (0, 0, 1)])])
set_option maxRecDepth 100000 in
theorem kg15 : ab_ok ab_TT ab_sets ab_WR 7 159 mg15 := ab_chk_ok (S := ab_SL [(108, mg14), (113, mg1), (115, mg3), (133, mg11), (142, m_findFar)]) (nds := [(25, ([(0, 0), (0, 1), (0, 36)], [some (2, 65, 0), some (0, 1, 0), some (0, 2, 0), none, none, none], [], [(2, 65, 0), (0, 1, 0)]), [(2, (-2))], 527), (46, ([(0, 0), (0, 1), (0, 4)], [some (2, 65, 0), some (0, 1, 0), some (0, 2, 0), none, none, none], [], [(2, 65, 0), (0, 1, 0)]), [(2, (-76))], 453), (85, ([(0, 0), (0, 1), (0, 3), (0, 36)], [some (2, 65, 0), some (0, 1, 0), some (0, 2, 0), some (0, 3, 0), none, none], [], [(2, 65, 0), (0, 1, 0)]), [(2, (-76)), (3, (-2))], 451), (150, ([(0, 0), (0, 1), ((-6), 35), (0, 100000), (0, 36)], [some (2, 65, 0), some (0, 1, 0), some (0, 2, 0), some (0, 3, 0), some (0, 4, 0), none], [], [(2, 65, 0), (0, 1, 0)]), [(4, (-2))], 73)]) (mc := []) (fuel := 3000) ab_mc0 (by decide) (by decide) (ab_SLc kg14 (by decide) (ab_SLc kg1 (by decide) (ab_SLc kg3 (by decide) (ab_SLc kg11 (by decide) (ab_SLc k_findFar (by decide) ab_SLn))))) (by decide +kernel)
/-- X10_in -/
noncomputable def mg16 : ab_M := ([(1, (-9223372036854775808), 9223372036854775807), (1, 0, 0), (1, 35, 35)], [(some (0, 0, 0), [(1, (-9223372036854775808), 9223372036854775807), (1, 0, 0), (1, 35, 35)]), (some (0, 1, 1), [(1, 0, 35), (1, 0, 0), (1, 35, 35)])])
set_option maxRecDepth 100000 in
theorem kg16 : ab_ok ab_TT ab_sets ab_WR 1 108 mg16 := ab_chk_ok (S := ab_SL []) (nds := []) (mc := []) (fuel := 3000) ab_mc0 (by decide) (by decide) ab_SLn (by decide +kernel)
/-- X10_has -/
noncomputable def mg17 : ab_M := ([(1, (-9223372036854775808), 9223372036854775807), (0, (-2147483648), 2147483647)], [(some (0, 0, 0), [(1, (-9223372036854775808), 9223372036854775807), (0, (-2147483648), 2147483647)]), (some (0, 1, 1), [(1, (-9223372036854775808), 9223372036854775807), (0, (-2147483648), 2147483647)])])
set_option maxRecDepth 100000 in
theorem kg17 : ab_ok ab_TT ab_sets ab_WR 1 110 mg17 := ab_chk_ok (S := ab_SL []) (nds := []) (mc := []) (fuel := 3000) ab_mc0 (by decide) (by decide) ab_SLn (by decide +kernel)
/-- X10_allLand -/
noncomputable def mg18 : ab_M := ([(2, 65, 0)], [(some (1, (-9223372036854775808), 9223372036854775807), [(2, 65, 0)])])
set_option maxRecDepth 100000 in
theorem kg18 : ab_ok ab_TT ab_sets ab_WR 4 117 mg18 := ab_chk_ok (S := ab_SL [(113, mg1), (115, mg3)]) (nds := [(4, ([(0, 0), ((-9223372036854775808), 9223372036854775807), (0, 36)], [some (2, 65, 0), some (1, 1, 0), none, some (0, 2, 0)], [], [(2, 65, 0)]), [(3, (-2))], 73)]) (mc := []) (fuel := 3000) ab_mc0 (by decide) (by decide) (ab_SLc kg1 (by decide) (ab_SLc kg3 (by decide) ab_SLn)) (by decide +kernel)
/-- X10_isSet -/
noncomputable def mg19 : ab_M := ([(2, 65, 0), (1, (-9223372036854775808), 9223372036854775807)], [(some (0, 0, 0), [(2, 65, 0), (1, (-9223372036854775808), 9223372036854775807)]), (some (0, 1, 1), [(2, 65, 0), (1, 0, 9223372036854775807)])])
set_option maxRecDepth 100000 in
theorem kg19 : ab_ok ab_TT ab_sets ab_WR 5 152 mg19 := ab_chk_ok (S := ab_SL [(117, mg18)]) (nds := []) (mc := []) (fuel := 3000) ab_mc0 (by decide) (by decide) (ab_SLc kg18 (by decide) ab_SLn) (by decide +kernel)
/-- X10_made -/
noncomputable def mg20 : ab_M := ([(2, 65, 0), (1, (-9223372036854775808), 9223372036854775807), (0, (-2147483648), 2147483647), (0, (-2147483648), 2147483647)], [(some (0, (-2), (-2)), [(2, 65, 0), (1, (-9223372036854775808), 9223372036854775807), (0, (-2147483648), 2147483647), (0, (-2147483648), 2147483647)]), (some (0, (-2147483648), 2147483647), [(2, 65, 0), (1, 0, 9223372036854775807), (0, 0, 35), (0, 0, 1)])])
set_option maxRecDepth 100000 in
theorem kg20 : ab_ok ab_TT ab_sets ab_WR 6 160 mg20 := ab_chk_ok (S := ab_SL [(108, mg14), (108, mg16), (110, mg17), (113, mg1), (132, mg10), (142, m_findFar), (152, mg19)]) (nds := [(44, ([(0, 0), (0, 9223372036854775807), (0, 35), (0, 1), ((-2147483648), 2147483647), ((-6), 50), (1, 51)], [some (2, 65, 0), some (1, 1, 0), none, some (0, 2, 0), some (0, 3, 0), some (0, 4, 0), some (0, 5, 0), some (0, 6, 0), none, none], [], [(2, 65, 0), (1, 1, 0), (0, 2, 0), (0, 3, 0)]), [(7, (-76))], 3951), (71, ([(0, 0), (0, 9223372036854775807), (0, 35), (0, 1), ((-2147483648), 2147483647), ((-6), 50), (1, 50), (0, 1), (0, 36)], [some (2, 65, 0), some (1, 1, 0), none, some (0, 2, 0), some (0, 3, 0), some (0, 4, 0), some (0, 5, 0), some (0, 6, 0), some (0, 7, 0), some (0, 8, 0)], [], [(2, 65, 0), (1, 1, 0), (0, 2, 0), (0, 3, 0)]), [(7, (-76)), (9, (-2))], 3949)]) (mc := []) (fuel := 3000) ab_mc0 (by decide) (by decide) (ab_SLc kg14 (by decide) (ab_SLc kg16 (by decide) (ab_SLc kg17 (by decide) (ab_SLc kg1 (by decide) (ab_SLc kg10 (by decide) (ab_SLc k_findFar (by decide) (ab_SLc kg19 (by decide) ab_SLn))))))) (by decide +kernel)
/-- X10_where -/
noncomputable def mg21 : ab_M := ([(2, 65, 0)], [(some (1, (-9223372036854775808), 9223372036854775807), [(2, 65, 0)])])
set_option maxRecDepth 100000 in
theorem kg21 : ab_ok ab_TT ab_sets ab_WR 5 163 mg21 := ab_chk_ok (S := ab_SL [(117, mg18), (131, mg7)]) (nds := [(7, ([(0, 0), ((-9223372036854775808), 9223372036854775807), (0, 8)], [some (2, 65, 0), some (1, 1, 0), none, some (0, 2, 0)], [], [(2, 65, 0)]), [(3, (-2))], 17)]) (mc := []) (fuel := 3000) ab_mc0 (by decide) (by decide) (ab_SLc kg18 (by decide) (ab_SLc kg7 (by decide) ab_SLn)) (by decide +kernel)
/-- X10_mostBy -/
noncomputable def mg23 : ab_M := ([(2, 65, 0), (0, 0, 35), (1, (-9223372036854775808), 9223372036854775807)], [(some (0, 0, 64), [(2, 65, 0), (0, 0, 35), (1, (-9223372036854775808), 9223372036854775807)])])
set_option maxRecDepth 100000 in
theorem kg23 : ab_ok ab_TT ab_sets ab_WR 5 164 mg23 := ab_chk_ok (S := ab_SL [(109, m_ones), (131, mg7)]) (nds := [(6, ([(0, 0), (0, 35), ((-9223372036854775808), 9223372036854775807), (0, 64), (0, 51)], [some (2, 65, 0), some (0, 1, 0), some (1, 2, 0), none, some (0, 3, 0), some (0, 4, 0), none], [], [(2, 65, 0), (0, 1, 0), (1, 2, 0)]), [(5, (-2))], 103)]) (mc := []) (fuel := 3000) ab_mc0 (by decide) (by decide) (ab_SLc k_ones (by decide) (ab_SLc kg7 (by decide) ab_SLn)) (by decide +kernel)
/-- X10_ask -/
noncomputable def mg24 : ab_M := ([(2, 65, 0), (0, (-2147483648), 2147483647)], [(some (0, (-2), (-2)), [(2, 65, 0), (0, (-2147483648), 2147483647)]), (some (0, (-6), 100000), [(2, 65, 0), (0, 0, 1)])])
set_option maxRecDepth 100000 in
theorem kg24 : ab_ok ab_TT ab_sets ab_WR 6 165 mg24 := ab_chk_ok (S := ab_SL [(108, mg14), (113, mg1), (163, mg21), (164, mg23)]) (nds := [(29, ([(0, 0), (0, 1), ((-9223372036854775808), 9223372036854775807), ((-6), 35), (0, 100000), (0, 36)], [some (2, 65, 0), some (0, 1, 0), some (1, 2, 0), none, some (0, 3, 0), some (0, 4, 0), some (0, 5, 0), none], [], [(2, 65, 0), (0, 1, 0)]), [(6, (-2))], 73)]) (mc := []) (fuel := 3000) ab_mc0 (by decide) (by decide) (ab_SLc kg14 (by decide) (ab_SLc kg1 (by decide) (ab_SLc kg21 (by decide) (ab_SLc kg23 (by decide) ab_SLn)))) (by decide +kernel)
/-- X10_in -/
noncomputable def mg25 : ab_M := ([(1, (-9223372036854775808), 9223372036854775807), (1, 0, 0), (1, 12, 12)], [(some (0, 0, 0), [(1, (-9223372036854775808), 9223372036854775807), (1, 0, 0), (1, 12, 12)]), (some (0, 1, 1), [(1, 0, 12), (1, 0, 0), (1, 12, 12)])])
set_option maxRecDepth 100000 in
theorem kg25 : ab_ok ab_TT ab_sets ab_WR 1 108 mg25 := ab_chk_ok (S := ab_SL []) (nds := []) (mc := []) (fuel := 3000) ab_mc0 (by decide) (by decide) ab_SLn (by decide +kernel)
/-- X10_findWays -/
noncomputable def mg26 : ab_M := ([(2, 65, 0), (0, 0, 35), (0, 0, 12)], [(none, [(2, 65, 0), (0, 0, 35), (0, 0, 12)])])
set_option maxRecDepth 100000 in
theorem kg26 : ab_ok ab_TT ab_sets ab_WR 2 166 mg26 := ab_chk_ok (S := ab_SL [(110, mg17), (113, mg1)]) (nds := [(2, ([(0, 0), (0, 35), (0, 12), (0, 36)], [some (2, 65, 0), some (0, 1, 0), some (0, 2, 0), some (0, 3, 0), none, none, none, none], [], [(2, 65, 0), (0, 1, 0), (0, 2, 0)]), [(3, (-2))], 37617), (32, ([(0, 0), (0, 35), (0, 12), (0, 12)], [some (2, 65, 0), some (0, 1, 0), some (0, 2, 0), some (0, 3, 0), none, none, none, none], [], [(2, 65, 0), (0, 1, 0), (0, 2, 0)]), [(3, (-2888))], 37543), (40, ([(0, 0), (0, 35), (1, 12), (0, 11), (0, 36)], [some (2, 65, 0), some (0, 1, 0), some (0, 2, 0), some (0, 3, 0), some (0, 4, 0), none, none, none], [], [(2, 65, 0), (0, 1, 0), (0, 2, 0)]), [(3, (-2888)), (4, (-76))], 37541), (55, ([(0, 0), (0, 35), (1, 12), (0, 11), (0, 35), ((-9223372036854775808), 9223372036854775807), (0, 36)], [some (2, 65, 0), some (0, 1, 0), some (0, 2, 0), some (0, 3, 0), some (0, 4, 0), some (1, 5, 0), none, some (0, 6, 0)], [], [(2, 65, 0), (0, 1, 0), (0, 2, 0)]), [(3, (-2888)), (4, (-76)), (7, (-2))], 37539), (119, ([(0, 0), (0, 35), (1, 12), (0, 11), (0, 36)], [some (2, 65, 0), some (0, 1, 0), some (0, 2, 0), some (0, 3, 0), some (0, 4, 0), none, none, none], [], [(2, 65, 0), (0, 1, 0), (0, 2, 0)]), [(3, (-2888)), (4, (-2))], 34729)]) (mc := []) (fuel := 3000) ab_mc0 (by decide) (by decide) (ab_SLc kg17 (by decide) (ab_SLc kg1 (by decide) ab_SLn)) (by decide +kernel)
/-- X10_after -/
noncomputable def mg27 : ab_M := ([(2, 65, 0), (0, (-2147483648), 2147483647), (0, (-2147483648), 2147483647), (0, (-2147483648), 2147483647)], [(some (1, (-1000000000000000001), (-1000000000000000001)), [(2, 65, 0), (0, (-2147483648), 2147483647), (0, (-2147483648), 2147483647), (0, (-2147483648), 2147483647)]), (some (1, (-1000000000000000002), (-1000000000000000002)), [(2, 65, 0), (0, 0, 3), (0, 0, 35), (0, (-2147483648), 2147483647)]), (some (1, (-9223372036854775808), 9223372036854775807), [(2, 65, 0), (0, 0, 3), (0, 0, 35), (0, 0, 12)])])
set_option maxRecDepth 100000 in
theorem kg27 : ab_ok ab_TT ab_sets ab_WR 7 167 mg27 := ab_chk_ok (S := ab_SL [(108, mg25), (113, mg1), (115, mg3), (116, mg5), (133, mg11), (166, mg26)]) (nds := [(52, ([(0, 0), (0, 3), (0, 35), (0, 12), ((-9223372036854775808), 9223372036854775807), (0, 36)], [some (2, 65, 0), some (0, 1, 0), some (0, 2, 0), some (0, 3, 0), some (1, 4, 0), none, some (0, 5, 0)], [], [(2, 65, 0), (0, 1, 0), (0, 2, 0), (0, 3, 0)]), [(6, (-2))], 73)]) (mc := []) (fuel := 3000) ab_mc0 (by decide) (by decide) (ab_SLc kg25 (by decide) (ab_SLc kg1 (by decide) (ab_SLc kg3 (by decide) (ab_SLc kg5 (by decide) (ab_SLc kg11 (by decide) (ab_SLc kg26 (by decide) ab_SLn)))))) (by decide +kernel)
/-- X10_isAsked -/
noncomputable def mg28 : ab_M := ([(2, 65, 0), (0, (-2147483648), 2147483647), (0, (-2147483648), 2147483647), (0, (-2147483648), 2147483647)], [(some (0, 0, 0), [(2, 65, 0), (0, (-2147483648), 2147483647), (0, (-2147483648), 2147483647), (0, (-2147483648), 2147483647)]), (some (0, 1, 1), [(2, 65, 0), (0, 0, 3), (0, 0, 35), (0, 0, 35)])])
set_option maxRecDepth 100000 in
theorem kg28 : ab_ok ab_TT ab_sets ab_WR 4 143 mg28 := ab_chk_ok (S := ab_SL [(115, mg3), (116, mg5)]) (nds := []) (mc := []) (fuel := 3000) ab_mc0 (by decide) (by decide) (ab_SLc kg3 (by decide) (ab_SLc kg5 (by decide) ab_SLn)) (by decide +kernel)
/-- X10_ways -/
noncomputable def mg29 : ab_M := ([(2, 65, 0), (0, (-2147483648), 2147483647), (0, (-2147483648), 2147483647), (0, (-2147483648), 2147483647), (0, (-2147483648), 2147483647)], [(some (1, (-1000000000000000001), (-1000000000000000001)), [(2, 65, 0), (0, (-2147483648), 2147483647), (0, (-2147483648), 2147483647), (0, (-2147483648), 2147483647), (0, (-2147483648), 2147483647)]), (some (1, (-1000000000000000002), (-1000000000000000002)), [(2, 65, 0), (0, 0, 3), (0, 0, 35), (0, 0, 35), (0, (-2147483648), 2147483647)]), (some (1, (-9223372036854775808), 9223372036854775807), [(2, 65, 0), (0, 0, 3), (0, 0, 35), (0, 0, 35), (0, 0, 12)])])
set_option maxRecDepth 100000 in
theorem kg29 : ab_ok ab_TT ab_sets ab_WR 7 168 mg29 := ab_chk_ok (S := ab_SL [(108, mg25), (133, mg11), (143, mg28), (166, mg26)]) (nds := []) (mc := []) (fuel := 3000) ab_mc0 (by decide) (by decide) (ab_SLc kg25 (by decide) (ab_SLc kg11 (by decide) (ab_SLc kg28 (by decide) (ab_SLc kg26 (by decide) ab_SLn)))) (by decide +kernel)
/-- X10_posts -/
noncomputable def mg30 : ab_M := ([(2, 65, 0), (0, (-2147483648), 2147483647), (0, (-2147483648), 2147483647)], [(some (0, (-1), (-1)), [(2, 65, 0), (0, (-2147483648), 2147483647), (0, (-2147483648), 2147483647)]), (some (0, (-2), (-2)), [(2, 65, 0), (0, 0, 3), (0, (-2147483648), 2147483647)]), (some (0, (-4), (-4)), [(2, 65, 0), (0, 0, 3), (0, 0, 1)]), (some (0, (-6), 2147483646), [(2, 65, 0), (0, 0, 3), (0, 0, 1)])])
set_option maxRecDepth 100000 in
theorem kg30 : ab_ok ab_TT ab_sets ab_WR 7 177 mg30 := ab_chk_ok (S := ab_SL [(108, mg14), (109, m_ones), (110, mg17), (113, mg1), (116, mg5), (117, mg18), (133, mg11)]) (nds := [(51, ([(0, 0), (0, 3), (0, 1), ((-9223372036854775808), 9223372036854775807), ((-6), 2147483646), (1, 2147483647)], [some (2, 65, 0), some (0, 1, 0), some (0, 2, 0), some (1, 3, 0), none, some (0, 4, 0), some (0, 5, 0), none, none, none, none], [], [(2, 65, 0), (0, 1, 0), (0, 2, 0)]), [(6, (-76))], 163208757247), (116, ([(0, 0), (0, 3), (0, 1), ((-9223372036854775808), 9223372036854775807), ((-6), 2147483646), (1, 2147483646), ((-9223372036854775808), 9223372036854775807), (1, 1), (0, 36)], [some (2, 65, 0), some (0, 1, 0), some (0, 2, 0), some (1, 3, 0), none, some (0, 4, 0), some (0, 5, 0), some (0, 7, 0), some (1, 6, 0), none, some (0, 8, 0)], [], [(2, 65, 0), (0, 1, 0), (0, 2, 0)]), [(6, (-76)), (10, (-2))], 163208757245)]) (mc := []) (fuel := 3000) ab_mc0 (by decide) (by decide) (ab_SLc kg14 (by decide) (ab_SLc k_ones (by decide) (ab_SLc kg17 (by decide) (ab_SLc kg1 (by decide) (ab_SLc kg5 (by decide) (ab_SLc kg18 (by decide) (ab_SLc kg11 (by decide) ab_SLn))))))) (by decide +kernel)
/-- X10_in -/
noncomputable def mg31 : ab_M := ([(1, (-9223372036854775808), 9223372036854775807), (1, 0, 0), (1, 2, 2)], [(some (0, 0, 0), [(1, (-9223372036854775808), 9223372036854775807), (1, 0, 0), (1, 2, 2)]), (some (0, 1, 1), [(1, 0, 2), (1, 0, 0), (1, 2, 2)])])
set_option maxRecDepth 100000 in
theorem kg31 : ab_ok ab_TT ab_sets ab_WR 1 108 mg31 := ab_chk_ok (S := ab_SL []) (nds := []) (mc := []) (fuel := 3000) ab_mc0 (by decide) (by decide) ab_SLn (by decide +kernel)
/-- X10_in -/
noncomputable def mg32 : ab_M := ([(1, (-9223372036854775808), 9223372036854775807), (1, 0, 0), (1, 9999, 9999)], [(some (0, 0, 0), [(1, (-9223372036854775808), 9223372036854775807), (1, 0, 0), (1, 9999, 9999)]), (some (0, 1, 1), [(1, 0, 9999), (1, 0, 0), (1, 9999, 9999)])])
set_option maxRecDepth 100000 in
theorem kg32 : ab_ok ab_TT ab_sets ab_WR 1 108 mg32 := ab_chk_ok (S := ab_SL []) (nds := []) (mc := []) (fuel := 3000) ab_mc0 (by decide) (by decide) ab_SLn (by decide +kernel)
/-- X10_in -/
noncomputable def mg33 : ab_M := ([(1, (-9223372036854775808), 9223372036854775807), (1, 1, 1), (1, 99, 99)], [(some (0, 0, 0), [(1, (-9223372036854775808), 9223372036854775807), (1, 1, 1), (1, 99, 99)]), (some (0, 1, 1), [(1, 1, 99), (1, 1, 1), (1, 99, 99)])])
set_option maxRecDepth 100000 in
theorem kg33 : ab_ok ab_TT ab_sets ab_WR 1 108 mg33 := ab_chk_ok (S := ab_SL []) (nds := []) (mc := []) (fuel := 3000) ab_mc0 (by decide) (by decide) ab_SLn (by decide +kernel)
/-- X10_year -/
noncomputable def mg34 : ab_M := ([(2, 65, 0), (0, (-2147483648), 2147483647), (0, (-2147483648), 2147483647), (0, (-2147483648), 2147483647), (0, (-2147483648), 2147483647)], [(some (0, (-1), (-1)), [(2, 65, 0), (0, (-2147483648), 2147483647), (0, (-2147483648), 2147483647), (0, (-2147483648), 2147483647), (0, (-2147483648), 2147483647)]), (some (0, (-2), (-2)), [(2, 65, 0), (0, 0, 3), (0, (-2147483648), 2147483647), (0, (-2147483648), 2147483647), (0, (-2147483648), 2147483647)]), (some (0, (-2147483648), 2147483647), [(2, 65, 0), (0, 0, 3), (0, 0, 9999), (0, 1, 99), (0, 0, 2)])])
set_option maxRecDepth 100000 in
theorem kg34 : ab_ok ab_TT ab_sets ab_WR 7 179 mg34 := ab_chk_ok (S := ab_SL [(108, mg33), (108, mg32), (108, mg31), (109, m_ones), (116, mg5), (133, mg11)]) (nds := [(77, ([(0, 0), (0, 3), (0, 9999), (0, 65536), (1, 99), (0, 2), (0, 35), ((-9223372036854775808), 9223372036854775807), ((-2147483648), 2147483647), (0, 99)], [some (2, 65, 0), some (0, 1, 0), some (0, 2, 0), some (0, 4, 0), some (0, 5, 0), some (0, 3, 0), some (0, 6, 0), some (1, 7, 0), none, some (0, 8, 0), some (0, 9, 0), none], [], [(2, 65, 0), (0, 1, 0), (0, 2, 0), (0, 4, 0), (0, 5, 0)]), [(10, (-2))], 199)]) (mc := [(83, mc_year)]) (fuel := 3000) (mc_1 (mc_yearH) ab_mc0) (by decide) (by decide) (ab_SLc kg33 (by decide) (ab_SLc kg32 (by decide) (ab_SLc kg31 (by decide) (ab_SLc k_ones (by decide) (ab_SLc kg5 (by decide) (ab_SLc kg11 (by decide) ab_SLn)))))) (by decide +kernel)
/-- X10_in -/
noncomputable def mg35 : ab_M := ([(1, (-9223372036854775808), 9223372036854775807), (1, 10, 10), (1, 13, 13)], [(some (0, 0, 0), [(1, (-9223372036854775808), 9223372036854775807), (1, 10, 10), (1, 13, 13)]), (some (0, 1, 1), [(1, 10, 13), (1, 10, 10), (1, 13, 13)])])
set_option maxRecDepth 100000 in
theorem kg35 : ab_ok ab_TT ab_sets ab_WR 1 108 mg35 := ab_chk_ok (S := ab_SL []) (nds := []) (mc := []) (fuel := 3000) ab_mc0 (by decide) (by decide) ab_SLn (by decide +kernel)
/-- X10_in -/
noncomputable def mg36 : ab_M := ([(1, (-9223372036854775808), 9223372036854775807), (1, 20, 20), (1, 23, 23)], [(some (0, 0, 0), [(1, (-9223372036854775808), 9223372036854775807), (1, 20, 20), (1, 23, 23)]), (some (0, 1, 1), [(1, 20, 23), (1, 20, 20), (1, 23, 23)])])
set_option maxRecDepth 100000 in
theorem kg36 : ab_ok ab_TT ab_sets ab_WR 1 108 mg36 := ab_chk_ok (S := ab_SL []) (nds := []) (mc := []) (fuel := 3000) ab_mc0 (by decide) (by decide) ab_SLn (by decide +kernel)
/-- X10_in -/
noncomputable def mg37 : ab_M := ([(1, (-9223372036854775808), 9223372036854775807), (1, 30, 30), (1, 69, 69)], [(some (0, 0, 0), [(1, (-9223372036854775808), 9223372036854775807), (1, 30, 30), (1, 69, 69)]), (some (0, 1, 1), [(1, 30, 69), (1, 30, 30), (1, 69, 69)])])
set_option maxRecDepth 100000 in
theorem kg37 : ab_ok ab_TT ab_sets ab_WR 1 108 mg37 := ab_chk_ok (S := ab_SL []) (nds := []) (mc := []) (fuel := 3000) ab_mc0 (by decide) (by decide) ab_SLn (by decide +kernel)
/-- X10_isPerson -/
noncomputable def mg38 : ab_M := ([(2, 65, 0), (0, (-2147483648), 2147483647)], [(some (0, 0, 0), [(2, 65, 0), (0, (-2147483648), 2147483647)]), (some (0, 1, 1), [(2, 65, 0), (0, 0, 3)])])
set_option maxRecDepth 100000 in
theorem kg38 : ab_ok ab_TT ab_sets ab_WR 2 156 mg38 := ab_chk_ok (S := ab_SL [(108, mg4)]) (nds := []) (mc := []) (fuel := 3000) ab_mc0 (by decide) (by decide) (ab_SLc kg4 (by decide) ab_SLn) (by decide +kernel)
/-- X10_toldOfPerson -/
noncomputable def mg39 : ab_M := ([(2, 65, 0), (0, (-3), 66), (0, 0, 9)], [(some (0, (-2), (-2)), [(2, 65, 0), (0, (-3), 66), (0, 0, 9)]), (some (0, 0, 35), [(2, 65, 0), (0, 0, 3), (0, 0, 1)])])
set_option maxRecDepth 100000 in
theorem kg39 : ab_ok ab_TT ab_sets ab_WR 3 185 mg39 := ab_chk_ok (S := ab_SL [(156, mg38)]) (nds := []) (mc := []) (fuel := 3000) ab_mc0 (by decide) (by decide) (ab_SLc kg38 (by decide) ab_SLn) (by decide +kernel)
/-- X10_told -/
noncomputable def mg40 : ab_M := ([(2, 65, 0), (0, (-2147483648), 2147483647)], [(some (0, (-2), (-2)), [(2, 65, 0), (0, (-2147483648), 2147483647)]), (some (0, (-2147483648), 2147483647), [(2, 65, 0), (0, 0, 69)])])
set_option maxRecDepth 100000 in
theorem kg40 : ab_ok ab_TT ab_sets ab_WR 4 186 mg40 := ab_chk_ok (S := ab_SL [(108, mg36), (108, mg35), (108, mg37), (109, m_ones), (185, mg39)]) (nds := []) (mc := []) (fuel := 3000) ab_mc0 (by decide) (by decide) (ab_SLc kg36 (by decide) (ab_SLc kg35 (by decide) (ab_SLc kg37 (by decide) (ab_SLc k_ones (by decide) (ab_SLc kg39 (by decide) ab_SLn))))) (by decide +kernel)
/-- X10_cell -/
noncomputable def mg41 : ab_M := ([(2, 65, 0), (0, (-2147483648), 2147483647)], [(some (0, (-1), (-1)), [(2, 65, 0), (0, (-2147483648), 2147483647)]), (some (0, 0, 126), [(2, 65, 0), (0, 0, 35)])])
set_option maxRecDepth 100000 in
theorem kg41 : ab_ok ab_TT ab_sets ab_WR 3 125 mg41 := ab_chk_ok (S := ab_SL [(114, mg2)]) (nds := []) (mc := []) (fuel := 3000) ab_mc0 (by decide) (by decide) (ab_SLc kg2 (by decide) ab_SLn) (by decide +kernel)
/-- X10_faultOfLand -/
noncomputable def mg42 : ab_M := ([(2, 65, 0)], [(some (0, (-6), (-6)), [(2, 65, 0)]), (some (0, 0, 60), [(2, 65, 0)])])
set_option maxRecDepth 100000 in
theorem kg42 : ab_ok ab_TT ab_sets ab_WR 2 121 mg42 := ab_chk_ok (S := ab_SL [(113, mg1)]) (nds := [(2, ([(0, 0), (0, 60)], [some (2, 65, 0), some (0, 1, 0), none], [], [(2, 65, 0)]), [(1, (-2))], 121)]) (mc := []) (fuel := 3000) ab_mc0 (by decide) (by decide) (ab_SLc kg1 (by decide) ab_SLn) (by decide +kernel)
/-- X10_in -/
noncomputable def mg43 : ab_M := ([(1, (-9223372036854775808), 9223372036854775807), (1, 48, 48), (1, 51, 51)], [(some (0, 0, 0), [(1, (-9223372036854775808), 9223372036854775807), (1, 48, 48), (1, 51, 51)]), (some (0, 1, 1), [(1, 48, 51), (1, 48, 48), (1, 51, 51)])])
set_option maxRecDepth 100000 in
theorem kg43 : ab_ok ab_TT ab_sets ab_WR 1 108 mg43 := ab_chk_ok (S := ab_SL []) (nds := []) (mc := []) (fuel := 3000) ab_mc0 (by decide) (by decide) ab_SLn (by decide +kernel)
/-- X10_in -/
noncomputable def mg44 : ab_M := ([(1, (-9223372036854775808), 9223372036854775807), (1, 48, 48), (1, 53, 53)], [(some (0, 0, 0), [(1, (-9223372036854775808), 9223372036854775807), (1, 48, 48), (1, 53, 53)]), (some (0, 1, 1), [(1, 48, 53), (1, 48, 48), (1, 53, 53)])])
set_option maxRecDepth 100000 in
theorem kg44 : ab_ok ab_TT ab_sets ab_WR 1 108 mg44 := ab_chk_ok (S := ab_SL []) (nds := []) (mc := []) (fuel := 3000) ab_mc0 (by decide) (by decide) ab_SLn (by decide +kernel)
/-- X10_in -/
noncomputable def mg45 : ab_M := ([(1, (-9223372036854775808), 9223372036854775807), (1, 97, 97), (1, 102, 102)], [(some (0, 0, 0), [(1, (-9223372036854775808), 9223372036854775807), (1, 97, 97), (1, 102, 102)]), (some (0, 1, 1), [(1, 97, 102), (1, 97, 97), (1, 102, 102)])])
set_option maxRecDepth 100000 in
theorem kg45 : ab_ok ab_TT ab_sets ab_WR 1 108 mg45 := ab_chk_ok (S := ab_SL []) (nds := []) (mc := []) (fuel := 3000) ab_mc0 (by decide) (by decide) ab_SLn (by decide +kernel)
/-- X10_faultOfWalk -/
noncomputable def mg46 : ab_M := ([(2, 65, 0)], [(some (0, (-6), (-6)), [(2, 65, 0)]), (some (0, 0, 60), [(2, 65, 0)])])
set_option maxRecDepth 100000 in
theorem kg46 : ab_ok ab_TT ab_sets ab_WR 2 122 mg46 := ab_chk_ok (S := ab_SL [(108, mg43), (108, mg45), (108, mg44)]) (nds := [(2, ([(0, 0), (1, 60), (35, 102), (0, 1), (1, 1)], [some (2, 65, 0), some (0, 1, 0), some (0, 2, 0), some (0, 3, 0), some (0, 4, 0)], [], [(2, 65, 0)]), [(1, (-2))], 121), (2, ([(0, 0), (0, 0)], [some (2, 65, 0), some (0, 1, 0), none, none, none], [], [(2, 65, 0)]), [(1, (-2))], 121)]) (mc := []) (fuel := 3000) ab_mc0 (by decide) (by decide) (ab_SLc kg43 (by decide) (ab_SLc kg45 (by decide) (ab_SLc kg44 (by decide) ab_SLn))) (by decide +kernel)
/-- X10_fault -/
noncomputable def mg47 : ab_M := ([(2, 65, 0), (0, (-2147483648), 2147483647)], [(some (0, (-2), (-2)), [(2, 65, 0), (0, (-2147483648), 2147483647)]), (some (0, (-6), (-6)), [(2, 65, 0), (0, 0, 1)]), (some (0, 0, 60), [(2, 65, 0), (0, 0, 1)])])
set_option maxRecDepth 100000 in
theorem kg47 : ab_ok ab_TT ab_sets ab_WR 3 123 mg47 := ab_chk_ok (S := ab_SL [(121, mg42), (122, mg46)]) (nds := []) (mc := []) (fuel := 3000) ab_mc0 (by decide) (by decide) (ab_SLc kg42 (by decide) (ab_SLc kg46 (by decide) ab_SLn)) (by decide +kernel)
/-- X10_layOther -/
noncomputable def mg48 : ab_M := ([(2, 65, 0), (0, 0, 3)], [(none, [(2, 65, 0), (0, 0, 3)])])
set_option maxRecDepth 100000 in
theorem kg48 : ab_ok ab_TT ab_sets ab_WR 5 134 mg48 := ab_chk_ok (S := ab_SL [(113, mg1), (115, mg3), (131, mg7)]) (nds := [(2, ([(0, 0), (0, 3), (0, 36)], [some (2, 65, 0), some (0, 1, 0), some (0, 2, 0)], [], [(2, 65, 0), (0, 1, 0)]), [(2, (-2))], 73)]) (mc := []) (fuel := 3000) ab_mc0 (by decide) (by decide) (ab_SLc kg1 (by decide) (ab_SLc kg3 (by decide) (ab_SLc kg7 (by decide) ab_SLn))) (by decide +kernel)
/-- X10_beginCosts -/
noncomputable def mg49 : ab_M := ([(2, 65, 0), (0, 0, 35)], [(none, [(2, 65, 0), (0, 0, 35)])])
set_option maxRecDepth 100000 in
theorem kg49 : ab_ok ab_TT ab_sets ab_WR 1 146 mg49 := ab_chk_ok (S := ab_SL []) (nds := [(2, ([(0, 0), (0, 35), (0, 72)], [some (2, 65, 0), some (0, 1, 0), some (0, 2, 0)], [], [(2, 65, 0), (0, 1, 0)]), [(2, (-2))], 145)]) (mc := []) (fuel := 3000) ab_mc0 (by decide) (by decide) ab_SLn (by decide +kernel)
/-- X10_findChances -/
noncomputable def mg50 : ab_M := ([(2, 65, 0), (0, 0, 35), (0, 0, 5), (1, (-9223372036854775808), 9223372036854775807)], [(none, [(2, 65, 0), (0, 0, 35), (0, 0, 5), (1, (-9223372036854775808), 9223372036854775807)])])
set_option maxRecDepth 100000 in
theorem kg50 : ab_ok ab_TT ab_sets ab_WR 2 170 mg50 := ab_chk_ok (S := ab_SL [(113, mg1)]) (nds := [(3, ([(0, 0), (0, 35), (0, 5), ((-9223372036854775808), 9223372036854775807), (0, 36)], [some (2, 65, 0), some (0, 1, 0), some (0, 2, 0), some (1, 3, 0), none, some (0, 4, 0), none, none], [], [(2, 65, 0), (0, 1, 0), (0, 2, 0), (1, 3, 0)]), [(5, (-2))], 17401), (37, ([(0, 0), (0, 35), (0, 5), ((-9223372036854775808), 9223372036854775807), (0, 5)], [some (2, 65, 0), some (0, 1, 0), some (0, 2, 0), some (1, 3, 0), none, some (0, 4, 0), none, none], [], [(2, 65, 0), (0, 1, 0), (0, 2, 0), (1, 3, 0)]), [(5, (-2888))], 17327), (46, ([(0, 0), (0, 35), (1, 5), ((-9223372036854775808), 9223372036854775807), (0, 4), (0, 36)], [some (2, 65, 0), some (0, 1, 0), some (0, 2, 0), some (1, 3, 0), none, some (0, 4, 0), some (0, 5, 0), none], [], [(2, 65, 0), (0, 1, 0), (0, 2, 0), (1, 3, 0)]), [(5, (-2888)), (6, (-76))], 17325), (88, ([(0, 0), (0, 35), (1, 5), ((-9223372036854775808), 9223372036854775807), (0, 4), (0, 35), (0, 36)], [some (2, 65, 0), some (0, 1, 0), some (0, 2, 0), some (1, 3, 0), none, some (0, 4, 0), some (0, 5, 0), some (0, 6, 0)], [], [(2, 65, 0), (0, 1, 0), (0, 2, 0), (1, 3, 0)]), [(5, (-2888)), (6, (-76)), (7, (-2))], 17323), (160, ([(0, 0), (0, 35), (1, 5), ((-9223372036854775808), 9223372036854775807), (0, 4), (0, 36)], [some (2, 65, 0), some (0, 1, 0), some (0, 2, 0), some (1, 3, 0), none, some (0, 4, 0), some (0, 5, 0), none], [], [(2, 65, 0), (0, 1, 0), (0, 2, 0), (1, 3, 0)]), [(5, (-2888)), (6, (-2))], 14513)]) (mc := [(105, mc_div)]) (fuel := 3000) (mc_1 (mc_divH) ab_mc0) (by decide) (by decide) (ab_SLc kg1 (by decide) ab_SLn) (by decide +kernel)
/-- X10_mayGo -/
noncomputable def mg51 : ab_M := ([(2, 65, 0), (1, 0, 68719476735), (0, 0, 35), (0, 0, 35)], [(some (0, 0, 0), [(2, 65, 0), (1, 0, 68719476735), (0, 0, 35), (0, 0, 35)]), (some (0, 1, 1), [(2, 65, 0), (1, 0, 68719476735), (0, 0, 35), (0, 0, 35)])])
set_option maxRecDepth 100000 in
theorem kg51 : ab_ok ab_TT ab_sets ab_WR 2 172 mg51 := ab_chk_ok (S := ab_SL [(110, mg17)]) (nds := []) (mc := []) (fuel := 3000) ab_mc0 (by decide) (by decide) (ab_SLc kg17 (by decide) ab_SLn) (by decide +kernel)
/-- X10_worstFrom -/
noncomputable def mg52 : ab_M := ([(2, 65, 0), (0, 0, 35), (0, 0, 35)], [(some (0, 0, 100000), [(2, 65, 0), (0, 0, 35), (0, 0, 35)])])
set_option maxRecDepth 100000 in
theorem kg52 : ab_ok ab_TT ab_sets ab_WR 3 173 mg52 := ab_chk_ok (S := ab_SL [(113, mg1), (172, mg51)]) (nds := [(12, ([(0, 0), (0, 35), (0, 35), (0, 100000), (0, 36)], [some (2, 65, 0), some (0, 1, 0), some (0, 2, 0), some (0, 3, 0), some (0, 4, 0), none], [], [(2, 65, 0), (0, 1, 0), (0, 2, 0)]), [(4, (-2))], 73)]) (mc := []) (fuel := 3000) ab_mc0 (by decide) (by decide) (ab_SLc kg1 (by decide) (ab_SLc kg51 (by decide) ab_SLn)) (by decide +kernel)
/-- X10_bestFrom -/
noncomputable def mg53 : ab_M := ([(2, 65, 0), (0, 0, 35), (0, 0, 35)], [(some (0, 1, 100000), [(2, 65, 0), (0, 0, 35), (0, 0, 35)])])
set_option maxRecDepth 100000 in
theorem kg53 : ab_ok ab_TT ab_sets ab_WR 4 174 mg53 := ab_chk_ok (S := ab_SL [(113, mg1), (172, mg51), (173, mg52)]) (nds := [(6, ([(0, 0), (0, 35), (0, 35), (0, 100000), (0, 36)], [some (2, 65, 0), some (0, 1, 0), some (0, 2, 0), some (0, 3, 0), some (0, 4, 0), none], [], [(2, 65, 0), (0, 1, 0), (0, 2, 0)]), [(4, (-2))], 73)]) (mc := []) (fuel := 3000) ab_mc0 (by decide) (by decide) (ab_SLc kg1 (by decide) (ab_SLc kg51 (by decide) (ab_SLc kg52 (by decide) ab_SLn))) (by decide +kernel)
/-- X10_stridesOfRow -/
noncomputable def mg54 : ab_M := ([(2, 65, 0)], [(some (0, (-2147483648), 2147483647), [(2, 65, 0)])])
set_option maxRecDepth 100000 in
theorem kg54 : ab_ok ab_TT ab_sets ab_WR 1 154 mg54 := ab_chk_ok (S := ab_SL []) (nds := [(9, ([(0, 0), (0, 5), ((-2147483648), 2147483647), (0, 5)], [some (2, 65, 0), some (0, 1, 0), some (0, 2, 0), some (0, 3, 0)], [], [(2, 65, 0)]), [(3, (-2))], 11)]) (mc := []) (fuel := 3000) ab_mc0 (by decide) (by decide) ab_SLn (by decide +kernel)
/-- X10_cheapen -/
noncomputable def mg55 : ab_M := ([(2, 65, 0), (0, 0, 71), (0, 0, 110000)], [(some (0, 0, 0), [(2, 65, 0), (0, 0, 71), (0, 0, 110000)]), (some (0, 1, 1), [(2, 65, 0), (0, 0, 71), (0, 0, 99999)])])
set_option maxRecDepth 100000 in
theorem kg55 : ab_ok ab_TT ab_sets ab_WR 1 147 mg55 := ab_chk_ok (S := ab_SL []) (nds := []) (mc := []) (fuel := 3000) ab_mc0 (by decide) (by decide) ab_SLn (by decide +kernel)
/-- X10_wearOf -/
noncomputable def mg56 : ab_M := ([(0, 0, 126)], [(some (0, 1, 2), [(0, 0, 126)])])
set_option maxRecDepth 100000 in
theorem kg56 : ab_ok ab_TT ab_sets ab_WR 1 135 mg56 := ab_chk_ok (S := ab_SL []) (nds := []) (mc := []) (fuel := 3000) ab_mc0 (by decide) (by decide) ab_SLn (by decide +kernel)
/-- X10_whyNoStride -/
noncomputable def mg57 : ab_M := ([(2, 65, 0), (0, (-2147483648), 2147483647), (0, (-2147483648), 2147483647)], [(some (0, 0, 4), [(2, 65, 0), (0, (-2147483648), 2147483647), (0, (-2147483648), 2147483647)])])
set_option maxRecDepth 100000 in
theorem kg57 : ab_ok ab_TT ab_sets ab_WR 4 136 mg57 := ab_chk_ok (S := ab_SL [(115, mg3), (130, mg6), (135, mg56)]) (nds := []) (mc := []) (fuel := 3000) ab_mc0 (by decide) (by decide) (ab_SLc kg3 (by decide) (ab_SLc kg6 (by decide) (ab_SLc kg56 (by decide) ab_SLn))) (by decide +kernel)
