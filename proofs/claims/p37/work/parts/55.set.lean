/-! ===== settle, forgetAll ===== -/
noncomputable def ab_WR5 : ab_wT := ([], [(3, 2), (3, 3), (3, 4), (3, 5), (3, 6), (65, 3), (65, 4), (65, 9), (65, 14)])
/-- X9_bit -/
noncomputable def mt0 : ab_M := ([(0, (-2147483648), 2147483647)], [(some (1, (-9223372036854775808), 9223372036854775807), [(0, (-2147483648), 2147483647)])])
set_option maxRecDepth 100000 in
theorem kt0 : ab_ok ab_TT ab_sets ab_WR5 1 104 mt0 := ab_chk_ok (S := ab_SL []) (nds := []) (mc := []) (fuel := 3000) ab_mc0 (by decide) (by decide) ab_SLn (by decide +kernel)
/-- X9_has -/
noncomputable def mt1 : ab_M := ([(1, (-9223372036854775808), 9223372036854775807), (0, (-2147483648), 2147483647)], [(some (0, 0, 0), [(1, (-9223372036854775808), 9223372036854775807), (0, (-2147483648), 2147483647)]), (some (0, 1, 1), [(1, (-9223372036854775808), 9223372036854775807), (0, (-2147483648), 2147483647)])])
set_option maxRecDepth 100000 in
theorem kt1 : ab_ok ab_TT ab_sets ab_WR5 1 105 mt1 := ab_chk_ok (S := ab_SL []) (nds := []) (mc := []) (fuel := 3000) ab_mc0 (by decide) (by decide) ab_SLn (by decide +kernel)
/-- X9_leastOf -/
noncomputable def mt2 : ab_M := ([(1, (-9223372036854775808), 9223372036854775807)], [(some (0, (-6), (-6)), [(1, (-9223372036854775808), 9223372036854775807)]), (some (0, 0, 35), [(1, (-9223372036854775808), 9223372036854775807)])])
set_option maxRecDepth 100000 in
theorem kt2 : ab_ok ab_TT ab_sets ab_WR5 2 106 mt2 := ab_chk_ok (S := ab_SL [(105, mt1)]) (nds := [(2, ([(0, 0), ((-9223372036854775808), 9223372036854775807), (0, 36)], [some (1, 1, 0), none, some (0, 2, 0)], [], [(1, 1, 0)]), [(2, (-2))], 73)]) (mc := []) (fuel := 3000) ab_mc0 (by decide) (by decide) (ab_SLc kt1 (by decide) ab_SLn) (by decide +kernel)
/-- X6_size -/
noncomputable def mt3 : ab_M := ([(2, 3, 0)], [(some (0, 1, 36), [(2, 3, 0)])])
set_option maxRecDepth 100000 in
theorem kt3 : ab_ok ab_TT ab_sets ab_WR5 1 38 mt3 := ab_chk_ok (S := ab_SL []) (nds := []) (mc := []) (fuel := 3000) ab_mc0 (by decide) (by decide) ab_SLn (by decide +kernel)
/-- X6_settle -/
noncomputable def mt4 : ab_M := ([(2, 3, 0)], [(none, [(2, 3, 0)])])
set_option maxRecDepth 100000 in
theorem kt4 : ab_ok ab_TT ab_sets ab_WR5 3 36 mt4 := ab_chk_ok (S := ab_SL [(38, mt3), (104, mt0), (106, mt2)]) (nds := [(7, ([(0, 0), (0, 36)], [some (2, 3, 0), some (0, 1, 0)], [], [(2, 3, 0)]), [(1, (-2))], 73)]) (mc := []) (fuel := 3000) ab_mc0 (by decide) (by decide) (ab_SLc kt3 (by decide) (ab_SLc kt0 (by decide) (ab_SLc kt2 (by decide) ab_SLn))) (by decide +kernel)
/-- X10_forgetAll -/
noncomputable def mt5 : ab_M := ([(2, 65, 0), (0, 0, 35)], [(none, [(2, 65, 0), (0, 0, 35)])])
set_option maxRecDepth 100000 in
theorem kt5 : ab_ok ab_TT ab_sets ab_WR5 1 112 mt5 := ab_chk_ok (S := ab_SL []) (nds := []) (mc := []) (fuel := 3000) ab_mc0 (by decide) (by decide) ab_SLn (by decide +kernel)
