/-! ===== where the words of the code stand ===== -/
theorem am_tb1 {w : Cond} (h : w ∈ tables_1_1) : w ∈ lw_tbl := List.mem_append_right _ (List.mem_append_left _ h)
theorem am_tb2 {w : Cond} (h : w ∈ tables_1_2) : w ∈ lw_tbl := List.mem_append_right _ (List.mem_append_right _ (List.mem_append_left _ h))
theorem am_tb3 {w : Cond} (h : w ∈ tables_1_3) : w ∈ lw_tbl := List.mem_append_right _ (List.mem_append_right _ (List.mem_append_right _ (List.mem_append_left _ h)))
theorem am_tb4 {w : Cond} (h : w ∈ tables_1_4) : w ∈ lw_tbl := List.mem_append_right _ (List.mem_append_right _ (List.mem_append_right _ (List.mem_append_right _ (List.mem_append_left _ h))))
theorem am_tb5 {w : Cond} (h : w ∈ tables_1_5) : w ∈ lw_tbl := List.mem_append_right _ (List.mem_append_right _ (List.mem_append_right _ (List.mem_append_right _ (List.mem_append_right _ (List.mem_append_left _ h)))))
theorem am_tb6 {w : Cond} (h : w ∈ tables_1_6) : w ∈ lw_tbl := List.mem_append_right _ (List.mem_append_right _ (List.mem_append_right _ (List.mem_append_right _ (List.mem_append_right _ (List.mem_append_right _ h)))))
set_option maxRecDepth 100000 in
theorem ow_0 : (Cond.code yX0_init cX0_init 1 none) ∈ lw_tbl := am_tb2 (List.mem_of_getElem? (show tables_1_2[43]? = some (Cond.code yX0_init cX0_init 1 none) from rfl))
set_option maxRecDepth 100000 in
theorem ow_1 : (Cond.code yX0_begin cX0_begin 6 none) ∈ lw_tbl := am_tb4 (List.mem_of_getElem? (show tables_1_4[15]? = some (Cond.code yX0_begin cX0_begin 6 none) from rfl))
set_option maxRecDepth 100000 in
theorem ow_2 : (Cond.code yX0_hunt cX0_hunt 5 none) ∈ lw_tbl := am_tb4 (List.mem_of_getElem? (show tables_1_4[23]? = some (Cond.code yX0_hunt cX0_hunt 5 none) from rfl))
set_option maxRecDepth 100000 in
theorem ow_3 : (Cond.code yX0_corner cX0_corner 5 none) ∈ lw_tbl := am_tb4 (List.mem_of_getElem? (show tables_1_4[27]? = some (Cond.code yX0_corner cX0_corner 5 none) from rfl))
set_option maxRecDepth 100000 in
theorem ow_4 : (Cond.code yX0_close cX0_close 6 (some .boolean)) ∈ lw_tbl := am_tb4 (List.mem_of_getElem? (show tables_1_4[33]? = some (Cond.code yX0_close cX0_close 6 (some .boolean)) from rfl))
set_option maxRecDepth 100000 in
theorem ow_5 : (Cond.code yX1_init cX1_init 1 none) ∈ lw_tbl := am_tb2 (List.mem_of_getElem? (show tables_1_2[22]? = some (Cond.code yX1_init cX1_init 1 none) from rfl))
set_option maxRecDepth 100000 in
theorem ow_6 : (Cond.code yX1_begin cX1_begin 7 none) ∈ lw_tbl := am_tb3 (List.mem_of_getElem? (show tables_1_3[216]? = some (Cond.code yX1_begin cX1_begin 7 none) from rfl))
set_option maxRecDepth 100000 in
theorem ow_7 : (Cond.code yX1_strideAllWays cX1_strideAllWays 2 none) ∈ lw_tbl := am_tb3 (List.mem_of_getElem? (show tables_1_3[225]? = some (Cond.code yX1_strideAllWays cX1_strideAllWays 2 none) from rfl))
set_option maxRecDepth 100000 in
theorem ow_8 : (Cond.code yX1_strideByLot cX1_strideByLot 3 none) ∈ lw_tbl := am_tb4 (List.mem_of_getElem? (show tables_1_4[3]? = some (Cond.code yX1_strideByLot cX1_strideByLot 3 none) from rfl))
set_option maxRecDepth 100000 in
theorem ow_9 : (Cond.code yX1_hand cX1_hand 5 none) ∈ lw_tbl := am_tb3 (List.mem_of_getElem? (show tables_1_3[229]? = some (Cond.code yX1_hand cX1_hand 5 none) from rfl))
set_option maxRecDepth 100000 in
theorem ow_10 : (Cond.code yX1_swap cX1_swap 2 none) ∈ lw_tbl := am_tb3 (List.mem_of_getElem? (show tables_1_3[234]? = some (Cond.code yX1_swap cX1_swap 2 none) from rfl))
set_option maxRecDepth 100000 in
theorem ow_11 : (Cond.code yX2_init cX2_init 1 none) ∈ lw_tbl := am_tb1 (List.mem_of_getElem? (show tables_1_1[29]? = some (Cond.code yX2_init cX2_init 1 none) from rfl))
set_option maxRecDepth 100000 in
theorem ow_12 : (Cond.code yX2_faultOfLand cX2_faultOfLand 3 (some .int)) ∈ lw_tbl := am_tb2 (List.mem_of_getElem? (show tables_1_2[149]? = some (Cond.code yX2_faultOfLand cX2_faultOfLand 3 (some .int)) from rfl))
set_option maxRecDepth 100000 in
theorem ow_13 : (Cond.code yX2_faultOfWalk cX2_faultOfWalk 3 (some .int)) ∈ lw_tbl := am_tb2 (List.mem_of_getElem? (show tables_1_2[156]? = some (Cond.code yX2_faultOfWalk cX2_faultOfWalk 3 (some .int)) from rfl))
set_option maxRecDepth 100000 in
theorem ow_14 : (Cond.code yX2_tellsDry cX2_tellsDry 2 (some .boolean)) ∈ lw_tbl := am_tb2 (List.mem_of_getElem? (show tables_1_2[171]? = some (Cond.code yX2_tellsDry cX2_tellsDry 2 (some .boolean)) from rfl))
set_option maxRecDepth 100000 in
theorem ow_15 : (Cond.code yX2_startsPart cX2_startsPart 1 (some .boolean)) ∈ lw_tbl := am_tb2 (List.mem_of_getElem? (show tables_1_2[159]? = some (Cond.code yX2_startsPart cX2_startsPart 1 (some .boolean)) from rfl))
set_option maxRecDepth 100000 in
theorem ow_16 : (Cond.code yX2_endsPart cX2_endsPart 2 (some .boolean)) ∈ lw_tbl := am_tb2 (List.mem_of_getElem? (show tables_1_2[163]? = some (Cond.code yX2_endsPart cX2_endsPart 2 (some .boolean)) from rfl))
set_option maxRecDepth 100000 in
theorem ow_17 : (Cond.code yX3_init cX3_init 1 none) ∈ lw_tbl := am_tb2 (List.mem_of_getElem? (show tables_1_2[73]? = some (Cond.code yX3_init cX3_init 1 none) from rfl))
set_option maxRecDepth 100000 in
theorem ow_18 : (Cond.code yX3_fewest cX3_fewest 7 (some .int)) ∈ lw_tbl := am_tb4 (List.mem_of_getElem? (show tables_1_4[42]? = some (Cond.code yX3_fewest cX3_fewest 7 (some .int)) from rfl))
set_option maxRecDepth 100000 in
theorem ow_19 : (Cond.code yX3_seek cX3_seek 7 (some .int)) ∈ lw_tbl := am_tb4 (List.mem_of_getElem? (show tables_1_4[52]? = some (Cond.code yX3_seek cX3_seek 7 (some .int)) from rfl))
set_option maxRecDepth 100000 in
theorem ow_20 : (Cond.code yX3_isHopeless cX3_isHopeless 4 (some .boolean)) ∈ lw_tbl := am_tb4 (List.mem_of_getElem? (show tables_1_4[56]? = some (Cond.code yX3_isHopeless cX3_isHopeless 4 (some .boolean)) from rfl))
set_option maxRecDepth 100000 in
theorem ow_21 : (Cond.code yX4_init cX4_init 1 none) ∈ lw_tbl := am_tb1 (List.mem_of_getElem? (show tables_1_1[189]? = some (Cond.code yX4_init cX4_init 1 none) from rfl))
set_option maxRecDepth 100000 in
theorem ow_22 : (Cond.code yX4_measure cX4_measure 4 (some .long)) ∈ lw_tbl := am_tb3 (List.mem_of_getElem? (show tables_1_3[42]? = some (Cond.code yX4_measure cX4_measure 4 (some .long)) from rfl))
set_option maxRecDepth 100000 in
theorem ow_23 : (Cond.code yX4_nearby cX4_nearby 10 (some .long)) ∈ lw_tbl := am_tb3 (List.mem_of_getElem? (show tables_1_3[46]? = some (Cond.code yX4_nearby cX4_nearby 10 (some .long)) from rfl))
set_option maxRecDepth 100000 in
theorem ow_24 : (Cond.code yX4_mark cX4_mark 6 none) ∈ lw_tbl := am_tb3 (List.mem_of_getElem? (show tables_1_3[52]? = some (Cond.code yX4_mark cX4_mark 6 none) from rfl))
set_option maxRecDepth 100000 in
theorem ow_25 : (Cond.code yX4_follow cX4_follow 7 (some .int)) ∈ lw_tbl := am_tb3 (List.mem_of_getElem? (show tables_1_3[64]? = some (Cond.code yX4_follow cX4_follow 7 (some .int)) from rfl))
set_option maxRecDepth 100000 in
theorem ow_26 : (Cond.code yX4_nextTowards cX4_nextTowards 6 (some .int)) ∈ lw_tbl := am_tb3 (List.mem_of_getElem? (show tables_1_3[69]? = some (Cond.code yX4_nextTowards cX4_nextTowards 6 (some .int)) from rfl))
set_option maxRecDepth 100000 in
theorem ow_27 : (Cond.code yX4_meeting cX4_meeting 4 (some .int)) ∈ lw_tbl := am_tb3 (List.mem_of_getElem? (show tables_1_3[163]? = some (Cond.code yX4_meeting cX4_meeting 4 (some .int)) from rfl))
set_option maxRecDepth 100000 in
theorem ow_28 : (Cond.code yX4_keepMost cX4_keepMost 4 none) ∈ lw_tbl := am_tb3 (List.mem_of_getElem? (show tables_1_3[169]? = some (Cond.code yX4_keepMost cX4_keepMost 4 none) from rfl))
set_option maxRecDepth 100000 in
theorem ow_29 : (Cond.code yX5_init cX5_init 1 none) ∈ lw_tbl := am_tb1 (List.mem_of_getElem? (show tables_1_1[233]? = some (Cond.code yX5_init cX5_init 1 none) from rfl))
set_option maxRecDepth 100000 in
theorem ow_30 : (Cond.code yX5_plan cX5_plan 10 none) ∈ lw_tbl := am_tb3 (List.mem_of_getElem? (show tables_1_3[123]? = some (Cond.code yX5_plan cX5_plan 10 none) from rfl))
set_option maxRecDepth 100000 in
theorem ow_31 : (Cond.code yX5_tryOrders cX5_tryOrders 7 none) ∈ lw_tbl := am_tb3 (List.mem_of_getElem? (show tables_1_3[130]? = some (Cond.code yX5_tryOrders cX5_tryOrders 7 none) from rfl))
set_option maxRecDepth 100000 in
theorem ow_32 : (Cond.code yX5_keepIfShorter cX5_keepIfShorter 2 none) ∈ lw_tbl := am_tb3 (List.mem_of_getElem? (show tables_1_3[134]? = some (Cond.code yX5_keepIfShorter cX5_keepIfShorter 2 none) from rfl))
set_option maxRecDepth 100000 in
theorem ow_33 : (Cond.code yX6_init cX6_init 2 none) ∈ lw_tbl := am_tb1 (List.mem_of_getElem? (show tables_1_1[47]? = some (Cond.code yX6_init cX6_init 2 none) from rfl))
set_option maxRecDepth 100000 in
theorem ow_34 : (Cond.code yX6_makePlain cX6_makePlain 6 none) ∈ lw_tbl := am_tb1 (List.mem_of_getElem? (show tables_1_1[52]? = some (Cond.code yX6_makePlain cX6_makePlain 6 none) from rfl))
set_option maxRecDepth 100000 in
theorem ow_35 : (Cond.code yX6_takeSigns cX6_takeSigns 3 none) ∈ lw_tbl := am_tb2 (List.mem_of_getElem? (show tables_1_2[175]? = some (Cond.code yX6_takeSigns cX6_takeSigns 3 none) from rfl))
set_option maxRecDepth 100000 in
theorem ow_36 : (Cond.code yX6_settle cX6_settle 2 none) ∈ lw_tbl := am_tb1 (List.mem_of_getElem? (show tables_1_1[56]? = some (Cond.code yX6_settle cX6_settle 2 none) from rfl))
set_option maxRecDepth 100000 in
theorem ow_37 : (Cond.code yX6_copy cX6_copy 2 none) ∈ lw_tbl := am_tb4 (List.mem_of_getElem? (show tables_1_4[72]? = some (Cond.code yX6_copy cX6_copy 2 none) from rfl))
set_option maxRecDepth 100000 in
theorem ow_38 : (Cond.code yX6_size cX6_size 1 (some .int)) ∈ lw_tbl := am_tb1 (List.mem_of_getElem? (show tables_1_1[60]? = some (Cond.code yX6_size cX6_size 1 (some .int)) from rfl))
set_option maxRecDepth 100000 in
theorem ow_39 : (Cond.code yX6_hasCell cX6_hasCell 2 (some .boolean)) ∈ lw_tbl := am_tb2 (List.mem_of_getElem? (show tables_1_2[189]? = some (Cond.code yX6_hasCell cX6_hasCell 2 (some .boolean)) from rfl))
set_option maxRecDepth 100000 in
theorem ow_40 : (Cond.code yX6_isDry cX6_isDry 2 (some .boolean)) ∈ lw_tbl := am_tb2 (List.mem_of_getElem? (show tables_1_2[198]? = some (Cond.code yX6_isDry cX6_isDry 2 (some .boolean)) from rfl))
set_option maxRecDepth 100000 in
theorem ow_41 : (Cond.code yX6_isThere cX6_isThere 2 (some .boolean)) ∈ lw_tbl := am_tb3 (List.mem_of_getElem? (show tables_1_3[155]? = some (Cond.code yX6_isThere cX6_isThere 2 (some .boolean)) from rfl))
set_option maxRecDepth 100000 in
theorem ow_42 : (Cond.code yX6_wearAt cX6_wearAt 2 (some .int)) ∈ lw_tbl := am_tb3 (List.mem_of_getElem? (show tables_1_3[11]? = some (Cond.code yX6_wearAt cX6_wearAt 2 (some .int)) from rfl))
set_option maxRecDepth 100000 in
theorem ow_43 : (Cond.code yX6_squareBetween cX6_squareBetween 5 (some .int)) ∈ lw_tbl := am_tb3 (List.mem_of_getElem? (show tables_1_3[7]? = some (Cond.code yX6_squareBetween cX6_squareBetween 5 (some .int)) from rfl))
set_option maxRecDepth 100000 in
theorem ow_44 : (Cond.code yX6_reach cX6_reach 8 (some .long)) ∈ lw_tbl := am_tb3 (List.mem_of_getElem? (show tables_1_3[20]? = some (Cond.code yX6_reach cX6_reach 8 (some .long)) from rfl))
set_option maxRecDepth 100000 in
theorem ow_45 : (Cond.code yX6_reachFromAll cX6_reachFromAll 7 (some .long)) ∈ lw_tbl := am_tb3 (List.mem_of_getElem? (show tables_1_3[58]? = some (Cond.code yX6_reachFromAll cX6_reachFromAll 7 (some .long)) from rfl))
set_option maxRecDepth 100000 in
theorem ow_46 : (Cond.code yX6_at cX6_at 3 (some .long)) ∈ lw_tbl := am_tb3 (List.mem_of_getElem? (show tables_1_3[26]? = some (Cond.code yX6_at cX6_at 3 (some .long)) from rfl))
set_option maxRecDepth 100000 in
theorem ow_47 : (Cond.code yX6_fitting cX6_fitting 4 (some .long)) ∈ lw_tbl := am_tb3 (List.mem_of_getElem? (show tables_1_3[191]? = some (Cond.code yX6_fitting cX6_fitting 4 (some .long)) from rfl))
set_option maxRecDepth 100000 in
theorem ow_48 : (Cond.code yX7_init cX7_init 1 none) ∈ lw_tbl := am_tb1 (List.mem_of_getElem? (show tables_1_1[205]? = some (Cond.code yX7_init cX7_init 1 none) from rfl))
set_option maxRecDepth 100000 in
theorem ow_49 : (Cond.code yX7_price cX7_price 5 none) ∈ lw_tbl := am_tb3 (List.mem_of_getElem? (show tables_1_3[81]? = some (Cond.code yX7_price cX7_price 5 none) from rfl))
set_option maxRecDepth 100000 in
theorem ow_50 : (Cond.code yX7_wear cX7_wear 3 none) ∈ lw_tbl := am_tb3 (List.mem_of_getElem? (show tables_1_3[85]? = some (Cond.code yX7_wear cX7_wear 3 none) from rfl))
set_option maxRecDepth 100000 in
theorem ow_51 : (Cond.code yX7_cheapest cX7_cheapest 6 (some .int)) ∈ lw_tbl := am_tb3 (List.mem_of_getElem? (show tables_1_3[89]? = some (Cond.code yX7_cheapest cX7_cheapest 6 (some .int)) from rfl))
set_option maxRecDepth 100000 in
theorem ow_52 : (Cond.code yX7_nearest cX7_nearest 4 (some .int)) ∈ lw_tbl := am_tb3 (List.mem_of_getElem? (show tables_1_3[95]? = some (Cond.code yX7_nearest cX7_nearest 4 (some .int)) from rfl))
set_option maxRecDepth 100000 in
theorem ow_53 : (Cond.code yX7_goOn cX7_goOn 12 none) ∈ lw_tbl := am_tb3 (List.mem_of_getElem? (show tables_1_3[99]? = some (Cond.code yX7_goOn cX7_goOn 12 none) from rfl))
set_option maxRecDepth 100000 in
theorem ow_54 : (Cond.code yX7_offer cX7_offer 3 none) ∈ lw_tbl := am_tb3 (List.mem_of_getElem? (show tables_1_3[106]? = some (Cond.code yX7_offer cX7_offer 3 none) from rfl))
set_option maxRecDepth 100000 in
theorem ow_55 : (Cond.code yX8_init cX8_init 1 none) ∈ lw_tbl := am_tb1 (List.mem_of_getElem? (show tables_1_1[158]? = some (Cond.code yX8_init cX8_init 1 none) from rfl))
set_option maxRecDepth 100000 in
theorem ow_56 : (Cond.code yX8_follow cX8_follow 7 none) ∈ lw_tbl := am_tb2 (List.mem_of_getElem? (show tables_1_2[228]? = some (Cond.code yX8_follow cX8_follow 7 none) from rfl))
set_option maxRecDepth 100000 in
theorem ow_57 : (Cond.code yX8_putOn cX8_putOn 3 (some .int)) ∈ lw_tbl := am_tb2 (List.mem_of_getElem? (show tables_1_2[235]? = some (Cond.code yX8_putOn cX8_putOn 3 (some .int)) from rfl))
set_option maxRecDepth 100000 in
theorem ow_58 : (Cond.code yX8_stride cX8_stride 5 (some .int)) ∈ lw_tbl := am_tb3 (List.mem_of_getElem? (show tables_1_3[1]? = some (Cond.code yX8_stride cX8_stride 5 (some .int)) from rfl))
set_option maxRecDepth 100000 in
theorem ow_59 : (Cond.code yX9_init cX9_init 2 none) ∈ lw_tbl := am_tb1 (List.mem_of_getElem? (show tables_1_1[21]? = some (Cond.code yX9_init cX9_init 2 none) from rfl))
set_option maxRecDepth 100000 in
theorem ow_60 : (Cond.code yX9_land cX9_land 3 (some .int)) ∈ lw_tbl := am_tb2 (List.mem_of_getElem? (show tables_1_2[128]? = some (Cond.code yX9_land cX9_land 3 (some .int)) from rfl))
set_option maxRecDepth 100000 in
theorem ow_61 : (Cond.code yX9_say cX9_say 2 (some .int)) ∈ lw_tbl := am_tb2 (List.mem_of_getElem? (show tables_1_2[137]? = some (Cond.code yX9_say cX9_say 2 (some .int)) from rfl))
set_option maxRecDepth 100000 in
theorem ow_62 : (Cond.code yX9_wipe cX9_wipe 2 (some .int)) ∈ lw_tbl := am_tb2 (List.mem_of_getElem? (show tables_1_2[141]? = some (Cond.code yX9_wipe cX9_wipe 2 (some .int)) from rfl))
set_option maxRecDepth 100000 in
theorem ow_63 : (Cond.code yX9_fault cX9_fault 2 (some .int)) ∈ lw_tbl := am_tb2 (List.mem_of_getElem? (show tables_1_2[145]? = some (Cond.code yX9_fault cX9_fault 2 (some .int)) from rfl))
set_option maxRecDepth 100000 in
theorem ow_64 : (Cond.code yX9_lay cX9_lay 1 (some .int)) ∈ lw_tbl := am_tb2 (List.mem_of_getElem? (show tables_1_2[167]? = some (Cond.code yX9_lay cX9_lay 1 (some .int)) from rfl))
set_option maxRecDepth 100000 in
theorem ow_65 : (Cond.code yX9_cell cX9_cell 2 (some .int)) ∈ lw_tbl := am_tb2 (List.mem_of_getElem? (show tables_1_2[185]? = some (Cond.code yX9_cell cX9_cell 2 (some .int)) from rfl))
set_option maxRecDepth 100000 in
theorem ow_66 : (Cond.code yX9_home cX9_home 3 (some .int)) ∈ lw_tbl := am_tb2 (List.mem_of_getElem? (show tables_1_2[194]? = some (Cond.code yX9_home cX9_home 3 (some .int)) from rfl))
set_option maxRecDepth 100000 in
theorem ow_67 : (Cond.code yX9_change cX9_change 3 (some .int)) ∈ lw_tbl := am_tb2 (List.mem_of_getElem? (show tables_1_2[204]? = some (Cond.code yX9_change cX9_change 3 (some .int)) from rfl))
set_option maxRecDepth 100000 in
theorem ow_68 : (Cond.code yX9_boots cX9_boots 4 (some .int)) ∈ lw_tbl := am_tb2 (List.mem_of_getElem? (show tables_1_2[210]? = some (Cond.code yX9_boots cX9_boots 4 (some .int)) from rfl))
set_option maxRecDepth 100000 in
theorem ow_69 : (Cond.code yX9_minutes cX9_minutes 3 (some .int)) ∈ lw_tbl := am_tb2 (List.mem_of_getElem? (show tables_1_2[220]? = some (Cond.code yX9_minutes cX9_minutes 3 (some .int)) from rfl))
set_option maxRecDepth 100000 in
theorem ow_70 : (Cond.code yX9_judge cX9_judge 2 (some .int)) ∈ lw_tbl := am_tb2 (List.mem_of_getElem? (show tables_1_2[224]? = some (Cond.code yX9_judge cX9_judge 2 (some .int)) from rfl))
set_option maxRecDepth 100000 in
theorem ow_71 : (Cond.code yX9_leads cX9_leads 3 (some .long)) ∈ lw_tbl := am_tb3 (List.mem_of_getElem? (show tables_1_3[15]? = some (Cond.code yX9_leads cX9_leads 3 (some .long)) from rfl))
set_option maxRecDepth 100000 in
theorem ow_72 : (Cond.code yX9_strides cX9_strides 5 (some .int)) ∈ lw_tbl := am_tb3 (List.mem_of_getElem? (show tables_1_3[30]? = some (Cond.code yX9_strides cX9_strides 5 (some .int)) from rfl))
set_option maxRecDepth 100000 in
theorem ow_73 : (Cond.code yX9_far cX9_far 7 (some .int)) ∈ lw_tbl := am_tb3 (List.mem_of_getElem? (show tables_1_3[34]? = some (Cond.code yX9_far cX9_far 7 (some .int)) from rfl))
set_option maxRecDepth 100000 in
theorem ow_74 : (Cond.code yX9_reached cX9_reached 3 (some .long)) ∈ lw_tbl := am_tb3 (List.mem_of_getElem? (show tables_1_3[73]? = some (Cond.code yX9_reached cX9_reached 3 (some .long)) from rfl))
set_option maxRecDepth 100000 in
theorem ow_75 : (Cond.code yX9_worn cX9_worn 4 (some .int)) ∈ lw_tbl := am_tb3 (List.mem_of_getElem? (show tables_1_3[77]? = some (Cond.code yX9_worn cX9_worn 4 (some .int)) from rfl))
set_option maxRecDepth 100000 in
theorem ow_76 : (Cond.code yX9_changed cX9_changed 7 (some .int)) ∈ lw_tbl := am_tb3 (List.mem_of_getElem? (show tables_1_3[111]? = some (Cond.code yX9_changed cX9_changed 7 (some .int)) from rfl))
set_option maxRecDepth 100000 in
theorem ow_77 : (Cond.code yX9_time cX9_time 4 (some .int)) ∈ lw_tbl := am_tb3 (List.mem_of_getElem? (show tables_1_3[115]? = some (Cond.code yX9_time cX9_time 4 (some .int)) from rfl))
set_option maxRecDepth 100000 in
theorem ow_78 : (Cond.code yX9_errands cX9_errands 5 (some .int)) ∈ lw_tbl := am_tb3 (List.mem_of_getElem? (show tables_1_3[119]? = some (Cond.code yX9_errands cX9_errands 5 (some .int)) from rfl))
set_option maxRecDepth 100000 in
theorem ow_79 : (Cond.code yX9_person cX9_person 4 (some .int)) ∈ lw_tbl := am_tb3 (List.mem_of_getElem? (show tables_1_3[141]? = some (Cond.code yX9_person cX9_person 4 (some .int)) from rfl))
set_option maxRecDepth 100000 in
theorem ow_80 : (Cond.code yX9_leave cX9_leave 2 (some .int)) ∈ lw_tbl := am_tb3 (List.mem_of_getElem? (show tables_1_3[151]? = some (Cond.code yX9_leave cX9_leave 2 (some .int)) from rfl))
set_option maxRecDepth 100000 in
theorem ow_81 : (Cond.code yX9_meet cX9_meet 3 (some .int)) ∈ lw_tbl := am_tb3 (List.mem_of_getElem? (show tables_1_3[159]? = some (Cond.code yX9_meet cX9_meet 3 (some .int)) from rfl))
set_option maxRecDepth 100000 in
theorem ow_82 : (Cond.code yX9_made cX9_made 8 (some .int)) ∈ lw_tbl := am_tb3 (List.mem_of_getElem? (show tables_1_3[174]? = some (Cond.code yX9_made cX9_made 8 (some .int)) from rfl))
set_option maxRecDepth 100000 in
theorem ow_83 : (Cond.code yX9_seen cX9_seen 3 (some .int)) ∈ lw_tbl := am_tb3 (List.mem_of_getElem? (show tables_1_3[179]? = some (Cond.code yX9_seen cX9_seen 3 (some .int)) from rfl))
set_option maxRecDepth 100000 in
theorem ow_84 : (Cond.code yX9_forget cX9_forget 2 (some .int)) ∈ lw_tbl := am_tb3 (List.mem_of_getElem? (show tables_1_3[183]? = some (Cond.code yX9_forget cX9_forget 2 (some .int)) from rfl))
set_option maxRecDepth 100000 in
theorem ow_85 : (Cond.code yX9_where cX9_where 1 (some .long)) ∈ lw_tbl := am_tb3 (List.mem_of_getElem? (show tables_1_3[187]? = some (Cond.code yX9_where cX9_where 1 (some .long)) from rfl))
set_option maxRecDepth 100000 in
theorem ow_86 : (Cond.code yX9_ask cX9_ask 8 (some .int)) ∈ lw_tbl := am_tb3 (List.mem_of_getElem? (show tables_1_3[195]? = some (Cond.code yX9_ask cX9_ask 8 (some .int)) from rfl))
set_option maxRecDepth 100000 in
theorem ow_87 : (Cond.code yX9_after cX9_after 7 (some .long)) ∈ lw_tbl := am_tb3 (List.mem_of_getElem? (show tables_1_3[206]? = some (Cond.code yX9_after cX9_after 7 (some .long)) from rfl))
set_option maxRecDepth 100000 in
theorem ow_88 : (Cond.code yX9_ways cX9_ways 6 (some .long)) ∈ lw_tbl := am_tb3 (List.mem_of_getElem? (show tables_1_3[212]? = some (Cond.code yX9_ways cX9_ways 6 (some .long)) from rfl))
set_option maxRecDepth 100000 in
theorem ow_89 : (Cond.code yX9_chance cX9_chance 10 (some .long)) ∈ lw_tbl := am_tb3 (List.mem_of_getElem? (show tables_1_3[238]? = some (Cond.code yX9_chance cX9_chance 10 (some .long)) from rfl))
set_option maxRecDepth 100000 in
theorem ow_90 : (Cond.code yX9_guard cX9_guard 6 (some .int)) ∈ lw_tbl := am_tb4 (List.mem_of_getElem? (show tables_1_4[11]? = some (Cond.code yX9_guard cX9_guard 6 (some .int)) from rfl))
set_option maxRecDepth 100000 in
theorem ow_91 : (Cond.code yX9_posts cX9_posts 4 (some .int)) ∈ lw_tbl := am_tb4 (List.mem_of_getElem? (show tables_1_4[38]? = some (Cond.code yX9_posts cX9_posts 4 (some .int)) from rfl))
set_option maxRecDepth 100000 in
theorem ow_92 : (Cond.code yX9_year cX9_year 11 (some .int)) ∈ lw_tbl := am_tb4 (List.mem_of_getElem? (show tables_1_4[60]? = some (Cond.code yX9_year cX9_year 11 (some .int)) from rfl))
set_option maxRecDepth 100000 in
theorem ow_93 : (Cond.code yX9_image cX9_image 2 (some .int)) ∈ lw_tbl := am_tb4 (List.mem_of_getElem? (show tables_1_4[68]? = some (Cond.code yX9_image cX9_image 2 (some .int)) from rfl))
set_option maxRecDepth 100000 in
theorem ow_94 : (Cond.code yX9_restore cX9_restore 2 (some .int)) ∈ lw_tbl := am_tb4 (List.mem_of_getElem? (show tables_1_4[77]? = some (Cond.code yX9_restore cX9_restore 2 (some .int)) from rfl))
set_option maxRecDepth 100000 in
theorem ow_95 : (Cond.code yX9_told cX9_told 2 (some .int)) ∈ lw_tbl := am_tb4 (List.mem_of_getElem? (show tables_1_4[81]? = some (Cond.code yX9_told cX9_told 2 (some .int)) from rfl))
set_option maxRecDepth 100000 in
theorem ow_96 : (Cond.code yX9_toldOfPerson cX9_toldOfPerson 3 (some .int)) ∈ lw_tbl := am_tb4 (List.mem_of_getElem? (show tables_1_4[85]? = some (Cond.code yX9_toldOfPerson cX9_toldOfPerson 3 (some .int)) from rfl))
set_option maxRecDepth 100000 in
theorem ow_97 : (Cond.code yX9_canTravel cX9_canTravel 4 (some .boolean)) ∈ lw_tbl := am_tb3 (List.mem_of_getElem? (show tables_1_3[38]? = some (Cond.code yX9_canTravel cX9_canTravel 4 (some .boolean)) from rfl))
set_option maxRecDepth 100000 in
theorem ow_98 : (Cond.code yX9_mostLeft cX9_mostLeft 7 (some .int)) ∈ lw_tbl := am_tb3 (List.mem_of_getElem? (show tables_1_3[199]? = some (Cond.code yX9_mostLeft cX9_mostLeft 7 (some .int)) from rfl))
set_option maxRecDepth 100000 in
theorem ow_99 : (Cond.code yX9_put cX9_put 4 (some .int)) ∈ lw_tbl := am_tb2 (List.mem_of_getElem? (show tables_1_2[216]? = some (Cond.code yX9_put cX9_put 4 (some .int)) from rfl))
set_option maxRecDepth 100000 in
theorem ow_100 : (Cond.code yX9_drawn cX9_drawn 7 (some .int)) ∈ lw_tbl := am_tb4 (List.mem_of_getElem? (show tables_1_4[64]? = some (Cond.code yX9_drawn cX9_drawn 7 (some .int)) from rfl))
set_option maxRecDepth 100000 in
theorem ow_101 : (Cond.code yX9_commonDivisor cX9_commonDivisor 7 (some .long)) ∈ lw_tbl := am_tb4 (List.mem_of_getElem? (show tables_1_4[7]? = some (Cond.code yX9_commonDivisor cX9_commonDivisor 7 (some .long)) from rfl))
set_option maxRecDepth 100000 in
theorem ow_102 : (Cond.code yX9_within cX9_within 3 (some .boolean)) ∈ lw_tbl := am_tb2 (List.mem_of_getElem? (show tables_1_2[131]? = some (Cond.code yX9_within cX9_within 3 (some .boolean)) from rfl))
set_option maxRecDepth 100000 in
theorem ow_103 : (Cond.code yX9_isBoots cX9_isBoots 1 (some .boolean)) ∈ lw_tbl := am_tb2 (List.mem_of_getElem? (show tables_1_2[213]? = some (Cond.code yX9_isBoots cX9_isBoots 1 (some .boolean)) from rfl))
set_option maxRecDepth 100000 in
theorem ow_104 : (Cond.code yX9_bit cX9_bit 1 (some .long)) ∈ lw_tbl := am_tb1 (List.mem_of_getElem? (show tables_1_1[63]? = some (Cond.code yX9_bit cX9_bit 1 (some .long)) from rfl))
set_option maxRecDepth 100000 in
theorem ow_105 : (Cond.code yX9_has cX9_has 3 (some .boolean)) ∈ lw_tbl := am_tb1 (List.mem_of_getElem? (show tables_1_1[69]? = some (Cond.code yX9_has cX9_has 3 (some .boolean)) from rfl))
set_option maxRecDepth 100000 in
theorem ow_106 : (Cond.code yX9_leastOf cX9_leastOf 3 (some .int)) ∈ lw_tbl := am_tb1 (List.mem_of_getElem? (show tables_1_1[66]? = some (Cond.code yX9_leastOf cX9_leastOf 3 (some .int)) from rfl))
set_option maxRecDepth 100000 in
theorem ow_107 : (Cond.code yX10_init cX10_init 2 none) ∈ lw_tbl := am_tb4 (List.mem_of_getElem? (show tables_1_4[90]? = some (Cond.code yX10_init cX10_init 2 none) from rfl))
set_option maxRecDepth 100000 in
theorem ow_108 : (Cond.code yX10_in cX10_in 6 (some .boolean)) ∈ lw_tbl := am_tb4 (List.mem_of_getElem? (show tables_1_4[228]? = some (Cond.code yX10_in cX10_in 6 (some .boolean)) from rfl))
set_option maxRecDepth 100000 in
theorem ow_109 : (Cond.code yX10_ones cX10_ones 5 (some .int)) ∈ lw_tbl := am_tb5 (List.mem_of_getElem? (show tables_1_5[38]? = some (Cond.code yX10_ones cX10_ones 5 (some .int)) from rfl))
set_option maxRecDepth 100000 in
theorem ow_110 : (Cond.code yX10_has cX10_has 3 (some .boolean)) ∈ lw_tbl := am_tb5 (List.mem_of_getElem? (show tables_1_5[82]? = some (Cond.code yX10_has cX10_has 3 (some .boolean)) from rfl))
set_option maxRecDepth 100000 in
theorem ow_111 : (Cond.code yX10_spread cX10_spread 4 none) ∈ lw_tbl := am_tb4 (List.mem_of_getElem? (show tables_1_4[95]? = some (Cond.code yX10_spread cX10_spread 4 none) from rfl))
set_option maxRecDepth 100000 in
theorem ow_112 : (Cond.code yX10_forgetAll cX10_forgetAll 2 none) ∈ lw_tbl := am_tb4 (List.mem_of_getElem? (show tables_1_4[99]? = some (Cond.code yX10_forgetAll cX10_forgetAll 2 none) from rfl))
set_option maxRecDepth 100000 in
theorem ow_113 : (Cond.code yX10_cells cX10_cells 1 (some .int)) ∈ lw_tbl := am_tb4 (List.mem_of_getElem? (show tables_1_4[232]? = some (Cond.code yX10_cells cX10_cells 1 (some .int)) from rfl))
set_option maxRecDepth 100000 in
theorem ow_114 : (Cond.code yX10_isCell cX10_isCell 2 (some .boolean)) ∈ lw_tbl := am_tb5 (List.mem_of_getElem? (show tables_1_5[35]? = some (Cond.code yX10_isCell cX10_isCell 2 (some .boolean)) from rfl))
set_option maxRecDepth 100000 in
theorem ow_115 : (Cond.code yX10_isLand cX10_isLand 2 (some .boolean)) ∈ lw_tbl := am_tb5 (List.mem_of_getElem? (show tables_1_5[31]? = some (Cond.code yX10_isLand cX10_isLand 2 (some .boolean)) from rfl))
set_option maxRecDepth 100000 in
theorem ow_116 : (Cond.code yX10_areBoots cX10_areBoots 1 (some .boolean)) ∈ lw_tbl := am_tb5 (List.mem_of_getElem? (show tables_1_5[58]? = some (Cond.code yX10_areBoots cX10_areBoots 1 (some .boolean)) from rfl))
set_option maxRecDepth 100000 in
theorem ow_117 : (Cond.code yX10_allLand cX10_allLand 4 (some .long)) ∈ lw_tbl := am_tb5 (List.mem_of_getElem? (show tables_1_5[27]? = some (Cond.code yX10_allLand cX10_allLand 4 (some .long)) from rfl))
set_option maxRecDepth 100000 in
theorem ow_118 : (Cond.code yX10_land cX10_land 3 (some .int)) ∈ lw_tbl := am_tb4 (List.mem_of_getElem? (show tables_1_4[224]? = some (Cond.code yX10_land cX10_land 3 (some .int)) from rfl))
set_option maxRecDepth 100000 in
theorem ow_119 : (Cond.code yX10_say cX10_say 2 (some .int)) ∈ lw_tbl := am_tb4 (List.mem_of_getElem? (show tables_1_4[236]? = some (Cond.code yX10_say cX10_say 2 (some .int)) from rfl))
set_option maxRecDepth 100000 in
theorem ow_120 : (Cond.code yX10_wipe cX10_wipe 2 (some .int)) ∈ lw_tbl := am_tb5 (List.mem_of_getElem? (show tables_1_5[2]? = some (Cond.code yX10_wipe cX10_wipe 2 (some .int)) from rfl))
set_option maxRecDepth 100000 in
theorem ow_121 : (Cond.code yX10_faultOfLand cX10_faultOfLand 3 (some .int)) ∈ lw_tbl := am_tb5 (List.mem_of_getElem? (show tables_1_5[10]? = some (Cond.code yX10_faultOfLand cX10_faultOfLand 3 (some .int)) from rfl))
set_option maxRecDepth 100000 in
theorem ow_122 : (Cond.code yX10_faultOfWalk cX10_faultOfWalk 5 (some .int)) ∈ lw_tbl := am_tb5 (List.mem_of_getElem? (show tables_1_5[14]? = some (Cond.code yX10_faultOfWalk cX10_faultOfWalk 5 (some .int)) from rfl))
set_option maxRecDepth 100000 in
theorem ow_123 : (Cond.code yX10_fault cX10_fault 2 (some .int)) ∈ lw_tbl := am_tb5 (List.mem_of_getElem? (show tables_1_5[6]? = some (Cond.code yX10_fault cX10_fault 2 (some .int)) from rfl))
set_option maxRecDepth 100000 in
theorem ow_124 : (Cond.code yX10_lay cX10_lay 3 (some .int)) ∈ lw_tbl := am_tb5 (List.mem_of_getElem? (show tables_1_5[23]? = some (Cond.code yX10_lay cX10_lay 3 (some .int)) from rfl))
set_option maxRecDepth 100000 in
theorem ow_125 : (Cond.code yX10_cell cX10_cell 2 (some .int)) ∈ lw_tbl := am_tb5 (List.mem_of_getElem? (show tables_1_5[42]? = some (Cond.code yX10_cell cX10_cell 2 (some .int)) from rfl))
set_option maxRecDepth 100000 in
theorem ow_126 : (Cond.code yX10_home cX10_home 3 (some .int)) ∈ lw_tbl := am_tb5 (List.mem_of_getElem? (show tables_1_5[46]? = some (Cond.code yX10_home cX10_home 3 (some .int)) from rfl))
set_option maxRecDepth 100000 in
theorem ow_127 : (Cond.code yX10_change cX10_change 3 (some .int)) ∈ lw_tbl := am_tb5 (List.mem_of_getElem? (show tables_1_5[50]? = some (Cond.code yX10_change cX10_change 3 (some .int)) from rfl))
set_option maxRecDepth 100000 in
theorem ow_128 : (Cond.code yX10_boots cX10_boots 5 (some .int)) ∈ lw_tbl := am_tb5 (List.mem_of_getElem? (show tables_1_5[55]? = some (Cond.code yX10_boots cX10_boots 5 (some .int)) from rfl))
set_option maxRecDepth 100000 in
theorem ow_129 : (Cond.code yX10_minutes cX10_minutes 4 (some .int)) ∈ lw_tbl := am_tb5 (List.mem_of_getElem? (show tables_1_5[65]? = some (Cond.code yX10_minutes cX10_minutes 4 (some .int)) from rfl))
set_option maxRecDepth 100000 in
theorem ow_130 : (Cond.code yX10_square cX10_square 5 (some .int)) ∈ lw_tbl := am_tb5 (List.mem_of_getElem? (show tables_1_5[90]? = some (Cond.code yX10_square cX10_square 5 (some .int)) from rfl))
set_option maxRecDepth 100000 in
theorem ow_131 : (Cond.code yX10_leadsBy cX10_leadsBy 6 (some .long)) ∈ lw_tbl := am_tb5 (List.mem_of_getElem? (show tables_1_5[101]? = some (Cond.code yX10_leadsBy cX10_leadsBy 6 (some .long)) from rfl))
set_option maxRecDepth 100000 in
theorem ow_132 : (Cond.code yX10_layBy cX10_layBy 3 none) ∈ lw_tbl := am_tb5 (List.mem_of_getElem? (show tables_1_5[122]? = some (Cond.code yX10_layBy cX10_layBy 3 none) from rfl))
set_option maxRecDepth 100000 in
theorem ow_133 : (Cond.code yX10_putOn cX10_putOn 2 none) ∈ lw_tbl := am_tb5 (List.mem_of_getElem? (show tables_1_5[118]? = some (Cond.code yX10_putOn cX10_putOn 2 none) from rfl))
set_option maxRecDepth 100000 in
theorem ow_134 : (Cond.code yX10_layOther cX10_layOther 3 none) ∈ lw_tbl := am_tb5 (List.mem_of_getElem? (show tables_1_5[151]? = some (Cond.code yX10_layOther cX10_layOther 3 none) from rfl))
set_option maxRecDepth 100000 in
theorem ow_135 : (Cond.code yX10_wearOf cX10_wearOf 1 (some .int)) ∈ lw_tbl := am_tb5 (List.mem_of_getElem? (show tables_1_5[93]? = some (Cond.code yX10_wearOf cX10_wearOf 1 (some .int)) from rfl))
set_option maxRecDepth 100000 in
theorem ow_136 : (Cond.code yX10_whyNoStride cX10_whyNoStride 4 (some .int)) ∈ lw_tbl := am_tb5 (List.mem_of_getElem? (show tables_1_5[86]? = some (Cond.code yX10_whyNoStride cX10_whyNoStride 4 (some .int)) from rfl))
set_option maxRecDepth 100000 in
theorem ow_137 : (Cond.code yX10_whyNoChange cX10_whyNoChange 2 (some .int)) ∈ lw_tbl := am_tb5 (List.mem_of_getElem? (show tables_1_5[79]? = some (Cond.code yX10_whyNoChange cX10_whyNoChange 2 (some .int)) from rfl))
set_option maxRecDepth 100000 in
theorem ow_138 : (Cond.code yX10_goWalk cX10_goWalk 4 none) ∈ lw_tbl := am_tb5 (List.mem_of_getElem? (show tables_1_5[75]? = some (Cond.code yX10_goWalk cX10_goWalk 4 none) from rfl))
set_option maxRecDepth 100000 in
theorem ow_139 : (Cond.code yX10_judge cX10_judge 2 (some .int)) ∈ lw_tbl := am_tb5 (List.mem_of_getElem? (show tables_1_5[70]? = some (Cond.code yX10_judge cX10_judge 2 (some .int)) from rfl))
set_option maxRecDepth 100000 in
theorem ow_140 : (Cond.code yX10_leads cX10_leads 3 (some .long)) ∈ lw_tbl := am_tb5 (List.mem_of_getElem? (show tables_1_5[97]? = some (Cond.code yX10_leads cX10_leads 3 (some .long)) from rfl))
set_option maxRecDepth 100000 in
theorem ow_141 : (Cond.code yX10_strides cX10_strides 5 (some .int)) ∈ lw_tbl := am_tb5 (List.mem_of_getElem? (show tables_1_5[106]? = some (Cond.code yX10_strides cX10_strides 5 (some .int)) from rfl))
set_option maxRecDepth 100000 in
theorem ow_142 : (Cond.code yX10_findFar cX10_findFar 10 none) ∈ lw_tbl := am_tb5 (List.mem_of_getElem? (show tables_1_5[126]? = some (Cond.code yX10_findFar cX10_findFar 10 none) from rfl))
set_option maxRecDepth 100000 in
theorem ow_143 : (Cond.code yX10_isAsked cX10_isAsked 4 (some .boolean)) ∈ lw_tbl := am_tb5 (List.mem_of_getElem? (show tables_1_5[114]? = some (Cond.code yX10_isAsked cX10_isAsked 4 (some .boolean)) from rfl))
set_option maxRecDepth 100000 in
theorem ow_144 : (Cond.code yX10_far cX10_far 8 (some .int)) ∈ lw_tbl := am_tb5 (List.mem_of_getElem? (show tables_1_5[110]? = some (Cond.code yX10_far cX10_far 8 (some .int)) from rfl))
set_option maxRecDepth 100000 in
theorem ow_145 : (Cond.code yX10_reached cX10_reached 6 (some .long)) ∈ lw_tbl := am_tb5 (List.mem_of_getElem? (show tables_1_5[131]? = some (Cond.code yX10_reached cX10_reached 6 (some .long)) from rfl))
set_option maxRecDepth 100000 in
theorem ow_146 : (Cond.code yX10_beginCosts cX10_beginCosts 3 none) ∈ lw_tbl := am_tb5 (List.mem_of_getElem? (show tables_1_5[139]? = some (Cond.code yX10_beginCosts cX10_beginCosts 3 none) from rfl))
set_option maxRecDepth 100000 in
theorem ow_147 : (Cond.code yX10_cheapen cX10_cheapen 4 (some .boolean)) ∈ lw_tbl := am_tb5 (List.mem_of_getElem? (show tables_1_5[143]? = some (Cond.code yX10_cheapen cX10_cheapen 4 (some .boolean)) from rfl))
set_option maxRecDepth 100000 in
theorem ow_148 : (Cond.code yX10_worn cX10_worn 8 (some .int)) ∈ lw_tbl := am_tb5 (List.mem_of_getElem? (show tables_1_5[135]? = some (Cond.code yX10_worn cX10_worn 8 (some .int)) from rfl))
set_option maxRecDepth 100000 in
theorem ow_149 : (Cond.code yX10_changeOnce cX10_changeOnce 8 (some .boolean)) ∈ lw_tbl := am_tb5 (List.mem_of_getElem? (show tables_1_5[155]? = some (Cond.code yX10_changeOnce cX10_changeOnce 8 (some .boolean)) from rfl))
set_option maxRecDepth 100000 in
theorem ow_150 : (Cond.code yX10_changed cX10_changed 8 (some .int)) ∈ lw_tbl := am_tb5 (List.mem_of_getElem? (show tables_1_5[147]? = some (Cond.code yX10_changed cX10_changed 8 (some .int)) from rfl))
set_option maxRecDepth 100000 in
theorem ow_151 : (Cond.code yX10_time cX10_time 10 (some .int)) ∈ lw_tbl := am_tb5 (List.mem_of_getElem? (show tables_1_5[159]? = some (Cond.code yX10_time cX10_time 10 (some .int)) from rfl))
set_option maxRecDepth 100000 in
theorem ow_152 : (Cond.code yX10_isSet cX10_isSet 3 (some .boolean)) ∈ lw_tbl := am_tb5 (List.mem_of_getElem? (show tables_1_5[167]? = some (Cond.code yX10_isSet cX10_isSet 3 (some .boolean)) from rfl))
set_option maxRecDepth 100000 in
theorem ow_153 : (Cond.code yX10_layErrands cX10_layErrands 5 none) ∈ lw_tbl := am_tb5 (List.mem_of_getElem? (show tables_1_5[171]? = some (Cond.code yX10_layErrands cX10_layErrands 5 none) from rfl))
set_option maxRecDepth 100000 in
theorem ow_154 : (Cond.code yX10_stridesOfRow cX10_stridesOfRow 4 (some .int)) ∈ lw_tbl := am_tb5 (List.mem_of_getElem? (show tables_1_5[175]? = some (Cond.code yX10_stridesOfRow cX10_stridesOfRow 4 (some .int)) from rfl))
set_option maxRecDepth 100000 in
theorem ow_155 : (Cond.code yX10_errands cX10_errands 12 (some .int)) ∈ lw_tbl := am_tb5 (List.mem_of_getElem? (show tables_1_5[163]? = some (Cond.code yX10_errands cX10_errands 12 (some .int)) from rfl))
set_option maxRecDepth 100000 in
theorem ow_156 : (Cond.code yX10_isPerson cX10_isPerson 2 (some .boolean)) ∈ lw_tbl := am_tb5 (List.mem_of_getElem? (show tables_1_5[183]? = some (Cond.code yX10_isPerson cX10_isPerson 2 (some .boolean)) from rfl))
set_option maxRecDepth 100000 in
theorem ow_157 : (Cond.code yX10_person cX10_person 4 (some .int)) ∈ lw_tbl := am_tb5 (List.mem_of_getElem? (show tables_1_5[179]? = some (Cond.code yX10_person cX10_person 4 (some .int)) from rfl))
set_option maxRecDepth 100000 in
theorem ow_158 : (Cond.code yX10_leave cX10_leave 2 (some .int)) ∈ lw_tbl := am_tb5 (List.mem_of_getElem? (show tables_1_5[187]? = some (Cond.code yX10_leave cX10_leave 2 (some .int)) from rfl))
set_option maxRecDepth 100000 in
theorem ow_159 : (Cond.code yX10_meet cX10_meet 6 (some .int)) ∈ lw_tbl := am_tb5 (List.mem_of_getElem? (show tables_1_5[191]? = some (Cond.code yX10_meet cX10_meet 6 (some .int)) from rfl))
set_option maxRecDepth 100000 in
theorem ow_160 : (Cond.code yX10_made cX10_made 10 (some .int)) ∈ lw_tbl := am_tb5 (List.mem_of_getElem? (show tables_1_5[195]? = some (Cond.code yX10_made cX10_made 10 (some .int)) from rfl))
set_option maxRecDepth 100000 in
theorem ow_161 : (Cond.code yX10_seen cX10_seen 3 (some .int)) ∈ lw_tbl := am_tb5 (List.mem_of_getElem? (show tables_1_5[200]? = some (Cond.code yX10_seen cX10_seen 3 (some .int)) from rfl))
set_option maxRecDepth 100000 in
theorem ow_162 : (Cond.code yX10_forget cX10_forget 2 (some .int)) ∈ lw_tbl := am_tb5 (List.mem_of_getElem? (show tables_1_5[204]? = some (Cond.code yX10_forget cX10_forget 2 (some .int)) from rfl))
set_option maxRecDepth 100000 in
theorem ow_163 : (Cond.code yX10_where cX10_where 4 (some .long)) ∈ lw_tbl := am_tb5 (List.mem_of_getElem? (show tables_1_5[208]? = some (Cond.code yX10_where cX10_where 4 (some .long)) from rfl))
set_option maxRecDepth 100000 in
theorem ow_164 : (Cond.code yX10_mostBy cX10_mostBy 7 (some .int)) ∈ lw_tbl := am_tb5 (List.mem_of_getElem? (show tables_1_5[217]? = some (Cond.code yX10_mostBy cX10_mostBy 7 (some .int)) from rfl))
set_option maxRecDepth 100000 in
theorem ow_165 : (Cond.code yX10_ask cX10_ask 8 (some .int)) ∈ lw_tbl := am_tb5 (List.mem_of_getElem? (show tables_1_5[212]? = some (Cond.code yX10_ask cX10_ask 8 (some .int)) from rfl))
set_option maxRecDepth 100000 in
theorem ow_166 : (Cond.code yX10_findWays cX10_findWays 8 none) ∈ lw_tbl := am_tb5 (List.mem_of_getElem? (show tables_1_5[227]? = some (Cond.code yX10_findWays cX10_findWays 8 none) from rfl))
set_option maxRecDepth 100000 in
theorem ow_167 : (Cond.code yX10_after cX10_after 7 (some .long)) ∈ lw_tbl := am_tb5 (List.mem_of_getElem? (show tables_1_5[221]? = some (Cond.code yX10_after cX10_after 7 (some .long)) from rfl))
set_option maxRecDepth 100000 in
theorem ow_168 : (Cond.code yX10_ways cX10_ways 5 (some .long)) ∈ lw_tbl := am_tb5 (List.mem_of_getElem? (show tables_1_5[231]? = some (Cond.code yX10_ways cX10_ways 5 (some .long)) from rfl))
set_option maxRecDepth 100000 in
theorem ow_169 : (Cond.code yX10_common cX10_common 10 (some .long)) ∈ lw_tbl := am_tb6 (List.mem_of_getElem? (show tables_1_6[4]? = some (Cond.code yX10_common cX10_common 10 (some .long)) from rfl))
set_option maxRecDepth 100000 in
theorem ow_170 : (Cond.code yX10_findChances cX10_findChances 8 none) ∈ lw_tbl := am_tb6 (List.mem_of_getElem? (show tables_1_6[1]? = some (Cond.code yX10_findChances cX10_findChances 8 none) from rfl))
set_option maxRecDepth 100000 in
theorem ow_171 : (Cond.code yX10_chance cX10_chance 10 (some .long)) ∈ lw_tbl := am_tb5 (List.mem_of_getElem? (show tables_1_5[235]? = some (Cond.code yX10_chance cX10_chance 10 (some .long)) from rfl))
set_option maxRecDepth 100000 in
theorem ow_172 : (Cond.code yX10_mayGo cX10_mayGo 5 (some .boolean)) ∈ lw_tbl := am_tb6 (List.mem_of_getElem? (show tables_1_6[20]? = some (Cond.code yX10_mayGo cX10_mayGo 5 (some .boolean)) from rfl))
set_option maxRecDepth 100000 in
theorem ow_173 : (Cond.code yX10_worstFrom cX10_worstFrom 6 (some .int)) ∈ lw_tbl := am_tb6 (List.mem_of_getElem? (show tables_1_6[24]? = some (Cond.code yX10_worstFrom cX10_worstFrom 6 (some .int)) from rfl))
set_option maxRecDepth 100000 in
theorem ow_174 : (Cond.code yX10_bestFrom cX10_bestFrom 6 (some .int)) ∈ lw_tbl := am_tb6 (List.mem_of_getElem? (show tables_1_6[16]? = some (Cond.code yX10_bestFrom cX10_bestFrom 6 (some .int)) from rfl))
set_option maxRecDepth 100000 in
theorem ow_175 : (Cond.code yX10_findRounds cX10_findRounds 6 none) ∈ lw_tbl := am_tb6 (List.mem_of_getElem? (show tables_1_6[12]? = some (Cond.code yX10_findRounds cX10_findRounds 6 none) from rfl))
set_option maxRecDepth 100000 in
theorem ow_176 : (Cond.code yX10_guard cX10_guard 8 (some .int)) ∈ lw_tbl := am_tb6 (List.mem_of_getElem? (show tables_1_6[8]? = some (Cond.code yX10_guard cX10_guard 8 (some .int)) from rfl))
set_option maxRecDepth 100000 in
theorem ow_177 : (Cond.code yX10_posts cX10_posts 11 (some .int)) ∈ lw_tbl := am_tb6 (List.mem_of_getElem? (show tables_1_6[28]? = some (Cond.code yX10_posts cX10_posts 11 (some .int)) from rfl))
set_option maxRecDepth 100000 in
theorem ow_178 : (Cond.code yX10_nth cX10_nth 6 (some .int)) ∈ lw_tbl := am_tb6 (List.mem_of_getElem? (show tables_1_6[41]? = some (Cond.code yX10_nth cX10_nth 6 (some .int)) from rfl))
set_option maxRecDepth 100000 in
theorem ow_179 : (Cond.code yX10_year cX10_year 12 (some .int)) ∈ lw_tbl := am_tb6 (List.mem_of_getElem? (show tables_1_6[32]? = some (Cond.code yX10_year cX10_year 12 (some .int)) from rfl))
set_option maxRecDepth 100000 in
theorem ow_180 : (Cond.code yX10_carry cX10_carry 5 (some .long)) ∈ lw_tbl := am_tb6 (List.mem_of_getElem? (show tables_1_6[57]? = some (Cond.code yX10_carry cX10_carry 5 (some .long)) from rfl))
set_option maxRecDepth 100000 in
theorem ow_181 : (Cond.code yX10_pass cX10_pass 2 (some .int)) ∈ lw_tbl := am_tb6 (List.mem_of_getElem? (show tables_1_6[53]? = some (Cond.code yX10_pass cX10_pass 2 (some .int)) from rfl))
set_option maxRecDepth 100000 in
theorem ow_182 : (Cond.code yX10_passAll cX10_passAll 2 none) ∈ lw_tbl := am_tb6 (List.mem_of_getElem? (show tables_1_6[49]? = some (Cond.code yX10_passAll cX10_passAll 2 none) from rfl))
set_option maxRecDepth 100000 in
theorem ow_183 : (Cond.code yX10_image cX10_image 2 (some .int)) ∈ lw_tbl := am_tb6 (List.mem_of_getElem? (show tables_1_6[45]? = some (Cond.code yX10_image cX10_image 2 (some .int)) from rfl))
set_option maxRecDepth 100000 in
theorem ow_184 : (Cond.code yX10_restore cX10_restore 2 (some .int)) ∈ lw_tbl := am_tb6 (List.mem_of_getElem? (show tables_1_6[61]? = some (Cond.code yX10_restore cX10_restore 2 (some .int)) from rfl))
set_option maxRecDepth 100000 in
theorem ow_185 : (Cond.code yX10_toldOfPerson cX10_toldOfPerson 3 (some .int)) ∈ lw_tbl := am_tb6 (List.mem_of_getElem? (show tables_1_6[71]? = some (Cond.code yX10_toldOfPerson cX10_toldOfPerson 3 (some .int)) from rfl))
set_option maxRecDepth 100000 in
theorem ow_186 : (Cond.code yX10_told cX10_told 2 (some .int)) ∈ lw_tbl := am_tb6 (List.mem_of_getElem? (show tables_1_6[65]? = some (Cond.code yX10_told cX10_told 2 (some .int)) from rfl))
set_option maxRecDepth 100000 in
theorem ow_187 : (Cond.code yJ6_bitCount_0f7a4 cJ6_bitCount_0f7a4 1 (some .int)) ∈ lw_tbl := am_tb3 (List.mem_of_getElem? (show tables_1_3[144]? = some (Cond.code yJ6_bitCount_0f7a4 cJ6_bitCount_0f7a4 1 (some .int)) from rfl))
set_option maxRecDepth 100000 in
theorem ow_188 : (Cond.code yJ13_bitCount_95d88 cJ13_bitCount_95d88 2 (some .int)) ∈ lw_tbl := am_tb2 (List.mem_of_getElem? (show tables_1_2[178]? = some (Cond.code yJ13_bitCount_95d88 cJ13_bitCount_95d88 2 (some .int)) from rfl))
set_option maxRecDepth 100000 in
theorem ow_189 : (Cond.code yJ9_max_7cf53 cJ9_max_7cf53 2 (some .int)) ∈ lw_tbl := am_tb1 (List.mem_of_getElem? (show tables_1_1[72]? = some (Cond.code yJ9_max_7cf53 cJ9_max_7cf53 2 (some .int)) from rfl))
set_option maxRecDepth 100000 in
theorem ow_190 : (Cond.code yJ9_min_7cf53 cJ9_min_7cf53 2 (some .int)) ∈ lw_tbl := am_tb2 (List.mem_of_getElem? (show tables_1_2[152]? = some (Cond.code yJ9_min_7cf53 cJ9_min_7cf53 2 (some .int)) from rfl))
set_option maxRecDepth 100000 in
theorem ow_191 : (Cond.code yJ7_fill_d0a16 cJ7_fill_d0a16 5 none) ∈ lw_tbl := am_tb3 (List.mem_of_getElem? (show tables_1_3[220]? = some (Cond.code yJ7_fill_d0a16 cJ7_fill_d0a16 5 none) from rfl))
set_option maxRecDepth 100000 in
theorem ow_192 : (Cond.code yJ7_fill_53178 cJ7_fill_53178 4 none) ∈ lw_tbl := am_tb2 (List.mem_of_getElem? (show tables_1_2[231]? = some (Cond.code yJ7_fill_53178 cJ7_fill_53178 4 none) from rfl))
theorem ok_codew {z : Nat} (hz : z < 193) : Cond.code (am_y z) (am_by z) (am_ml z) (am_rt (am_mi z).2.2.1) ∈ lw_tbl := by
  match z, hz with
  | 0, _ => exact ow_0
  | 1, _ => exact ow_1
  | 2, _ => exact ow_2
  | 3, _ => exact ow_3
  | 4, _ => exact ow_4
  | 5, _ => exact ow_5
  | 6, _ => exact ow_6
  | 7, _ => exact ow_7
  | 8, _ => exact ow_8
  | 9, _ => exact ow_9
  | 10, _ => exact ow_10
  | 11, _ => exact ow_11
  | 12, _ => exact ow_12
  | 13, _ => exact ow_13
  | 14, _ => exact ow_14
  | 15, _ => exact ow_15
  | 16, _ => exact ow_16
  | 17, _ => exact ow_17
  | 18, _ => exact ow_18
  | 19, _ => exact ow_19
  | 20, _ => exact ow_20
  | 21, _ => exact ow_21
  | 22, _ => exact ow_22
  | 23, _ => exact ow_23
  | 24, _ => exact ow_24
  | 25, _ => exact ow_25
  | 26, _ => exact ow_26
  | 27, _ => exact ow_27
  | 28, _ => exact ow_28
  | 29, _ => exact ow_29
  | 30, _ => exact ow_30
  | 31, _ => exact ow_31
  | 32, _ => exact ow_32
  | 33, _ => exact ow_33
  | 34, _ => exact ow_34
  | 35, _ => exact ow_35
  | 36, _ => exact ow_36
  | 37, _ => exact ow_37
  | 38, _ => exact ow_38
  | 39, _ => exact ow_39
  | 40, _ => exact ow_40
  | 41, _ => exact ow_41
  | 42, _ => exact ow_42
  | 43, _ => exact ow_43
  | 44, _ => exact ow_44
  | 45, _ => exact ow_45
  | 46, _ => exact ow_46
  | 47, _ => exact ow_47
  | 48, _ => exact ow_48
  | 49, _ => exact ow_49
  | 50, _ => exact ow_50
  | 51, _ => exact ow_51
  | 52, _ => exact ow_52
  | 53, _ => exact ow_53
  | 54, _ => exact ow_54
  | 55, _ => exact ow_55
  | 56, _ => exact ow_56
  | 57, _ => exact ow_57
  | 58, _ => exact ow_58
  | 59, _ => exact ow_59
  | 60, _ => exact ow_60
  | 61, _ => exact ow_61
  | 62, _ => exact ow_62
  | 63, _ => exact ow_63
  | 64, _ => exact ow_64
  | 65, _ => exact ow_65
  | 66, _ => exact ow_66
  | 67, _ => exact ow_67
  | 68, _ => exact ow_68
  | 69, _ => exact ow_69
  | 70, _ => exact ow_70
  | 71, _ => exact ow_71
  | 72, _ => exact ow_72
  | 73, _ => exact ow_73
  | 74, _ => exact ow_74
  | 75, _ => exact ow_75
  | 76, _ => exact ow_76
  | 77, _ => exact ow_77
  | 78, _ => exact ow_78
  | 79, _ => exact ow_79
  | 80, _ => exact ow_80
  | 81, _ => exact ow_81
  | 82, _ => exact ow_82
  | 83, _ => exact ow_83
  | 84, _ => exact ow_84
  | 85, _ => exact ow_85
  | 86, _ => exact ow_86
  | 87, _ => exact ow_87
  | 88, _ => exact ow_88
  | 89, _ => exact ow_89
  | 90, _ => exact ow_90
  | 91, _ => exact ow_91
  | 92, _ => exact ow_92
  | 93, _ => exact ow_93
  | 94, _ => exact ow_94
  | 95, _ => exact ow_95
  | 96, _ => exact ow_96
  | 97, _ => exact ow_97
  | 98, _ => exact ow_98
  | 99, _ => exact ow_99
  | 100, _ => exact ow_100
  | 101, _ => exact ow_101
  | 102, _ => exact ow_102
  | 103, _ => exact ow_103
  | 104, _ => exact ow_104
  | 105, _ => exact ow_105
  | 106, _ => exact ow_106
  | 107, _ => exact ow_107
  | 108, _ => exact ow_108
  | 109, _ => exact ow_109
  | 110, _ => exact ow_110
  | 111, _ => exact ow_111
  | 112, _ => exact ow_112
  | 113, _ => exact ow_113
  | 114, _ => exact ow_114
  | 115, _ => exact ow_115
  | 116, _ => exact ow_116
  | 117, _ => exact ow_117
  | 118, _ => exact ow_118
  | 119, _ => exact ow_119
  | 120, _ => exact ow_120
  | 121, _ => exact ow_121
  | 122, _ => exact ow_122
  | 123, _ => exact ow_123
  | 124, _ => exact ow_124
  | 125, _ => exact ow_125
  | 126, _ => exact ow_126
  | 127, _ => exact ow_127
  | 128, _ => exact ow_128
  | 129, _ => exact ow_129
  | 130, _ => exact ow_130
  | 131, _ => exact ow_131
  | 132, _ => exact ow_132
  | 133, _ => exact ow_133
  | 134, _ => exact ow_134
  | 135, _ => exact ow_135
  | 136, _ => exact ow_136
  | 137, _ => exact ow_137
  | 138, _ => exact ow_138
  | 139, _ => exact ow_139
  | 140, _ => exact ow_140
  | 141, _ => exact ow_141
  | 142, _ => exact ow_142
  | 143, _ => exact ow_143
  | 144, _ => exact ow_144
  | 145, _ => exact ow_145
  | 146, _ => exact ow_146
  | 147, _ => exact ow_147
  | 148, _ => exact ow_148
  | 149, _ => exact ow_149
  | 150, _ => exact ow_150
  | 151, _ => exact ow_151
  | 152, _ => exact ow_152
  | 153, _ => exact ow_153
  | 154, _ => exact ow_154
  | 155, _ => exact ow_155
  | 156, _ => exact ow_156
  | 157, _ => exact ow_157
  | 158, _ => exact ow_158
  | 159, _ => exact ow_159
  | 160, _ => exact ow_160
  | 161, _ => exact ow_161
  | 162, _ => exact ow_162
  | 163, _ => exact ow_163
  | 164, _ => exact ow_164
  | 165, _ => exact ow_165
  | 166, _ => exact ow_166
  | 167, _ => exact ow_167
  | 168, _ => exact ow_168
  | 169, _ => exact ow_169
  | 170, _ => exact ow_170
  | 171, _ => exact ow_171
  | 172, _ => exact ow_172
  | 173, _ => exact ow_173
  | 174, _ => exact ow_174
  | 175, _ => exact ow_175
  | 176, _ => exact ow_176
  | 177, _ => exact ow_177
  | 178, _ => exact ow_178
  | 179, _ => exact ow_179
  | 180, _ => exact ow_180
  | 181, _ => exact ow_181
  | 182, _ => exact ow_182
  | 183, _ => exact ow_183
  | 184, _ => exact ow_184
  | 185, _ => exact ow_185
  | 186, _ => exact ow_186
  | 187, _ => exact ow_187
  | 188, _ => exact ow_188
  | 189, _ => exact ow_189
  | 190, _ => exact ow_190
  | 191, _ => exact ow_191
  | 192, _ => exact ow_192
  | n + 193, h => exact absurd h (by omega)
