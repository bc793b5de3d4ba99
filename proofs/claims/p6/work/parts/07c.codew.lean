/-! ===== where the words of the code stand ===== -/
def am_cp (z : Nat) : Nat := (bif Nat.blt z 96 then (bif Nat.blt z 48 then (bif Nat.blt z 24 then (bif Nat.blt z 12 then (bif Nat.blt z 6 then (bif Nat.blt z 3 then (bif Nat.blt z 1 then 339 else (bif Nat.blt z 2 then 791 else 799)) else (bif Nat.blt z 4 then 803 else (bif Nat.blt z 5 then 809 else 318))) else (bif Nat.blt z 9 then (bif Nat.blt z 7 then 752 else (bif Nat.blt z 8 then 761 else 779)) else (bif Nat.blt z 10 then 765 else (bif Nat.blt z 11 then 770 else 85)))) else (bif Nat.blt z 18 then (bif Nat.blt z 15 then (bif Nat.blt z 13 then 445 else (bif Nat.blt z 14 then 452 else 467)) else (bif Nat.blt z 16 then 455 else (bif Nat.blt z 17 then 459 else 369))) else (bif Nat.blt z 21 then (bif Nat.blt z 19 then 818 else (bif Nat.blt z 20 then 828 else 832)) else (bif Nat.blt z 22 then 245 else (bif Nat.blt z 23 then 578 else 582))))) else (bif Nat.blt z 36 then (bif Nat.blt z 30 then (bif Nat.blt z 27 then (bif Nat.blt z 25 then 588 else (bif Nat.blt z 26 then 600 else 605)) else (bif Nat.blt z 28 then 699 else (bif Nat.blt z 29 then 705 else 289))) else (bif Nat.blt z 33 then (bif Nat.blt z 31 then 659 else (bif Nat.blt z 32 then 666 else 670)) else (bif Nat.blt z 34 then 103 else (bif Nat.blt z 35 then 108 else 471)))) else (bif Nat.blt z 42 then (bif Nat.blt z 39 then (bif Nat.blt z 37 then 112 else (bif Nat.blt z 38 then 848 else 116)) else (bif Nat.blt z 40 then 485 else (bif Nat.blt z 41 then 494 else 691))) else (bif Nat.blt z 45 then (bif Nat.blt z 43 then 547 else (bif Nat.blt z 44 then 543 else 556)) else (bif Nat.blt z 46 then 594 else (bif Nat.blt z 47 then 562 else 727)))))) else (bif Nat.blt z 72 then (bif Nat.blt z 60 then (bif Nat.blt z 54 then (bif Nat.blt z 51 then (bif Nat.blt z 49 then 261 else (bif Nat.blt z 50 then 617 else 621)) else (bif Nat.blt z 52 then 625 else (bif Nat.blt z 53 then 631 else 635))) else (bif Nat.blt z 57 then (bif Nat.blt z 55 then 642 else (bif Nat.blt z 56 then 214 else 524)) else (bif Nat.blt z 58 then 531 else (bif Nat.blt z 59 then 537 else 77)))) else (bif Nat.blt z 66 then (bif Nat.blt z 63 then (bif Nat.blt z 61 then 424 else (bif Nat.blt z 62 then 433 else 437)) else (bif Nat.blt z 64 then 441 else (bif Nat.blt z 65 then 463 else 481))) else (bif Nat.blt z 69 then (bif Nat.blt z 67 then 490 else (bif Nat.blt z 68 then 500 else 506)) else (bif Nat.blt z 70 then 516 else (bif Nat.blt z 71 then 520 else 551))))) else (bif Nat.blt z 84 then (bif Nat.blt z 78 then (bif Nat.blt z 75 then (bif Nat.blt z 73 then 566 else (bif Nat.blt z 74 then 570 else 609)) else (bif Nat.blt z 76 then 613 else (bif Nat.blt z 77 then 647 else 651))) else (bif Nat.blt z 81 then (bif Nat.blt z 79 then 655 else (bif Nat.blt z 80 then 677 else 687)) else (bif Nat.blt z 82 then 695 else (bif Nat.blt z 83 then 710 else 715)))) else (bif Nat.blt z 90 then (bif Nat.blt z 87 then (bif Nat.blt z 85 then 719 else (bif Nat.blt z 86 then 723 else 731)) else (bif Nat.blt z 88 then 742 else (bif Nat.blt z 89 then 748 else 774))) else (bif Nat.blt z 93 then (bif Nat.blt z 91 then 787 else (bif Nat.blt z 92 then 814 else 836)) else (bif Nat.blt z 94 then 844 else (bif Nat.blt z 95 then 853 else 857))))))) else (bif Nat.blt z 144 then (bif Nat.blt z 120 then (bif Nat.blt z 108 then (bif Nat.blt z 102 then (bif Nat.blt z 99 then (bif Nat.blt z 97 then 861 else (bif Nat.blt z 98 then 574 else 735)) else (bif Nat.blt z 100 then 512 else (bif Nat.blt z 101 then 840 else 783))) else (bif Nat.blt z 105 then (bif Nat.blt z 103 then 427 else (bif Nat.blt z 104 then 509 else 119)) else (bif Nat.blt z 106 then 125 else (bif Nat.blt z 107 then 122 else 866)))) else (bif Nat.blt z 114 then (bif Nat.blt z 111 then (bif Nat.blt z 109 then 1004 else (bif Nat.blt z 110 then 1054 else 1098)) else (bif Nat.blt z 112 then 871 else (bif Nat.blt z 113 then 875 else 1008))) else (bif Nat.blt z 117 then (bif Nat.blt z 115 then 1051 else (bif Nat.blt z 116 then 1047 else 1074)) else (bif Nat.blt z 118 then 1043 else (bif Nat.blt z 119 then 1000 else 1012))))) else (bif Nat.blt z 132 then (bif Nat.blt z 126 then (bif Nat.blt z 123 then (bif Nat.blt z 121 then 1018 else (bif Nat.blt z 122 then 1026 else 1030)) else (bif Nat.blt z 124 then 1022 else (bif Nat.blt z 125 then 1039 else 1058))) else (bif Nat.blt z 129 then (bif Nat.blt z 127 then 1062 else (bif Nat.blt z 128 then 1066 else 1071)) else (bif Nat.blt z 130 then 1081 else (bif Nat.blt z 131 then 1106 else 1117)))) else (bif Nat.blt z 138 then (bif Nat.blt z 135 then (bif Nat.blt z 133 then 1138 else (bif Nat.blt z 134 then 1134 else 1167)) else (bif Nat.blt z 136 then 1109 else (bif Nat.blt z 137 then 1102 else 1095))) else (bif Nat.blt z 141 then (bif Nat.blt z 139 then 1091 else (bif Nat.blt z 140 then 1086 else 1113)) else (bif Nat.blt z 142 then 1122 else (bif Nat.blt z 143 then 1142 else 1130)))))) else (bif Nat.blt z 168 then (bif Nat.blt z 156 then (bif Nat.blt z 150 then (bif Nat.blt z 147 then (bif Nat.blt z 145 then 1126 else (bif Nat.blt z 146 then 1147 else 1155)) else (bif Nat.blt z 148 then 1159 else (bif Nat.blt z 149 then 1151 else 1171))) else (bif Nat.blt z 153 then (bif Nat.blt z 151 then 1163 else (bif Nat.blt z 152 then 1175 else 1183)) else (bif Nat.blt z 154 then 1187 else (bif Nat.blt z 155 then 1191 else 1179)))) else (bif Nat.blt z 162 then (bif Nat.blt z 159 then (bif Nat.blt z 157 then 1199 else (bif Nat.blt z 158 then 1195 else 1203)) else (bif Nat.blt z 160 then 1207 else (bif Nat.blt z 161 then 1211 else 1216))) else (bif Nat.blt z 165 then (bif Nat.blt z 163 then 1220 else (bif Nat.blt z 164 then 1224 else 1233)) else (bif Nat.blt z 166 then 1228 else (bif Nat.blt z 167 then 1243 else 1237))))) else (bif Nat.blt z 180 then (bif Nat.blt z 174 then (bif Nat.blt z 171 then (bif Nat.blt z 169 then 1247 else (bif Nat.blt z 170 then 1260 else 1257)) else (bif Nat.blt z 172 then 1251 else (bif Nat.blt z 173 then 1276 else 1280))) else (bif Nat.blt z 177 then (bif Nat.blt z 175 then 1272 else (bif Nat.blt z 176 then 1268 else 1264)) else (bif Nat.blt z 178 then 1284 else (bif Nat.blt z 179 then 1297 else 1288)))) else (bif Nat.blt z 186 then (bif Nat.blt z 183 then (bif Nat.blt z 181 then 1313 else (bif Nat.blt z 182 then 1309 else 1305)) else (bif Nat.blt z 184 then 1301 else (bif Nat.blt z 185 then 1317 else 1327))) else (bif Nat.blt z 189 then (bif Nat.blt z 187 then 1321 else (bif Nat.blt z 188 then 680 else 474)) else (bif Nat.blt z 191 then (bif Nat.blt z 190 then 128 else 448) else (bif Nat.blt z 192 then 756 else 527))))))))
set_option maxRecDepth 100000 in
theorem ow_0 : lw_tbl[339]? = some (Cond.code yX0_init cX0_init 1 none) := rfl
set_option maxRecDepth 100000 in
theorem ow_1 : lw_tbl[791]? = some (Cond.code yX0_begin cX0_begin 6 none) := rfl
set_option maxRecDepth 100000 in
theorem ow_2 : lw_tbl[799]? = some (Cond.code yX0_hunt cX0_hunt 5 none) := rfl
set_option maxRecDepth 100000 in
theorem ow_3 : lw_tbl[803]? = some (Cond.code yX0_corner cX0_corner 5 none) := rfl
set_option maxRecDepth 100000 in
theorem ow_4 : lw_tbl[809]? = some (Cond.code yX0_close cX0_close 6 (some .boolean)) := rfl
set_option maxRecDepth 100000 in
theorem ow_5 : lw_tbl[318]? = some (Cond.code yX1_init cX1_init 1 none) := rfl
set_option maxRecDepth 100000 in
theorem ow_6 : lw_tbl[752]? = some (Cond.code yX1_begin cX1_begin 7 none) := rfl
set_option maxRecDepth 100000 in
theorem ow_7 : lw_tbl[761]? = some (Cond.code yX1_strideAllWays cX1_strideAllWays 2 none) := rfl
set_option maxRecDepth 100000 in
theorem ow_8 : lw_tbl[779]? = some (Cond.code yX1_strideByLot cX1_strideByLot 3 none) := rfl
set_option maxRecDepth 100000 in
theorem ow_9 : lw_tbl[765]? = some (Cond.code yX1_hand cX1_hand 5 none) := rfl
set_option maxRecDepth 100000 in
theorem ow_10 : lw_tbl[770]? = some (Cond.code yX1_swap cX1_swap 2 none) := rfl
set_option maxRecDepth 100000 in
theorem ow_11 : lw_tbl[85]? = some (Cond.code yX2_init cX2_init 1 none) := rfl
set_option maxRecDepth 100000 in
theorem ow_12 : lw_tbl[445]? = some (Cond.code yX2_faultOfLand cX2_faultOfLand 3 (some .int)) := rfl
set_option maxRecDepth 100000 in
theorem ow_13 : lw_tbl[452]? = some (Cond.code yX2_faultOfWalk cX2_faultOfWalk 3 (some .int)) := rfl
set_option maxRecDepth 100000 in
theorem ow_14 : lw_tbl[467]? = some (Cond.code yX2_tellsDry cX2_tellsDry 2 (some .boolean)) := rfl
set_option maxRecDepth 100000 in
theorem ow_15 : lw_tbl[455]? = some (Cond.code yX2_startsPart cX2_startsPart 1 (some .boolean)) := rfl
set_option maxRecDepth 100000 in
theorem ow_16 : lw_tbl[459]? = some (Cond.code yX2_endsPart cX2_endsPart 2 (some .boolean)) := rfl
set_option maxRecDepth 100000 in
theorem ow_17 : lw_tbl[369]? = some (Cond.code yX3_init cX3_init 1 none) := rfl
set_option maxRecDepth 100000 in
theorem ow_18 : lw_tbl[818]? = some (Cond.code yX3_fewest cX3_fewest 7 (some .int)) := rfl
set_option maxRecDepth 100000 in
theorem ow_19 : lw_tbl[828]? = some (Cond.code yX3_seek cX3_seek 7 (some .int)) := rfl
set_option maxRecDepth 100000 in
theorem ow_20 : lw_tbl[832]? = some (Cond.code yX3_isHopeless cX3_isHopeless 4 (some .boolean)) := rfl
set_option maxRecDepth 100000 in
theorem ow_21 : lw_tbl[245]? = some (Cond.code yX4_init cX4_init 1 none) := rfl
set_option maxRecDepth 100000 in
theorem ow_22 : lw_tbl[578]? = some (Cond.code yX4_measure cX4_measure 4 (some .long)) := rfl
set_option maxRecDepth 100000 in
theorem ow_23 : lw_tbl[582]? = some (Cond.code yX4_nearby cX4_nearby 10 (some .long)) := rfl
set_option maxRecDepth 100000 in
theorem ow_24 : lw_tbl[588]? = some (Cond.code yX4_mark cX4_mark 6 none) := rfl
set_option maxRecDepth 100000 in
theorem ow_25 : lw_tbl[600]? = some (Cond.code yX4_follow cX4_follow 7 (some .int)) := rfl
set_option maxRecDepth 100000 in
theorem ow_26 : lw_tbl[605]? = some (Cond.code yX4_nextTowards cX4_nextTowards 6 (some .int)) := rfl
set_option maxRecDepth 100000 in
theorem ow_27 : lw_tbl[699]? = some (Cond.code yX4_meeting cX4_meeting 4 (some .int)) := rfl
set_option maxRecDepth 100000 in
theorem ow_28 : lw_tbl[705]? = some (Cond.code yX4_keepMost cX4_keepMost 4 none) := rfl
set_option maxRecDepth 100000 in
theorem ow_29 : lw_tbl[289]? = some (Cond.code yX5_init cX5_init 1 none) := rfl
set_option maxRecDepth 100000 in
theorem ow_30 : lw_tbl[659]? = some (Cond.code yX5_plan cX5_plan 10 none) := rfl
set_option maxRecDepth 100000 in
theorem ow_31 : lw_tbl[666]? = some (Cond.code yX5_tryOrders cX5_tryOrders 7 none) := rfl
set_option maxRecDepth 100000 in
theorem ow_32 : lw_tbl[670]? = some (Cond.code yX5_keepIfShorter cX5_keepIfShorter 2 none) := rfl
set_option maxRecDepth 100000 in
theorem ow_33 : lw_tbl[103]? = some (Cond.code yX6_init cX6_init 2 none) := rfl
set_option maxRecDepth 100000 in
theorem ow_34 : lw_tbl[108]? = some (Cond.code yX6_makePlain cX6_makePlain 6 none) := rfl
set_option maxRecDepth 100000 in
theorem ow_35 : lw_tbl[471]? = some (Cond.code yX6_takeSigns cX6_takeSigns 3 none) := rfl
set_option maxRecDepth 100000 in
theorem ow_36 : lw_tbl[112]? = some (Cond.code yX6_settle cX6_settle 2 none) := rfl
set_option maxRecDepth 100000 in
theorem ow_37 : lw_tbl[848]? = some (Cond.code yX6_copy cX6_copy 2 none) := rfl
set_option maxRecDepth 100000 in
theorem ow_38 : lw_tbl[116]? = some (Cond.code yX6_size cX6_size 1 (some .int)) := rfl
set_option maxRecDepth 100000 in
theorem ow_39 : lw_tbl[485]? = some (Cond.code yX6_hasCell cX6_hasCell 2 (some .boolean)) := rfl
set_option maxRecDepth 100000 in
theorem ow_40 : lw_tbl[494]? = some (Cond.code yX6_isDry cX6_isDry 2 (some .boolean)) := rfl
set_option maxRecDepth 100000 in
theorem ow_41 : lw_tbl[691]? = some (Cond.code yX6_isThere cX6_isThere 2 (some .boolean)) := rfl
set_option maxRecDepth 100000 in
theorem ow_42 : lw_tbl[547]? = some (Cond.code yX6_wearAt cX6_wearAt 2 (some .int)) := rfl
set_option maxRecDepth 100000 in
theorem ow_43 : lw_tbl[543]? = some (Cond.code yX6_squareBetween cX6_squareBetween 5 (some .int)) := rfl
set_option maxRecDepth 100000 in
theorem ow_44 : lw_tbl[556]? = some (Cond.code yX6_reach cX6_reach 8 (some .long)) := rfl
set_option maxRecDepth 100000 in
theorem ow_45 : lw_tbl[594]? = some (Cond.code yX6_reachFromAll cX6_reachFromAll 7 (some .long)) := rfl
set_option maxRecDepth 100000 in
theorem ow_46 : lw_tbl[562]? = some (Cond.code yX6_at cX6_at 3 (some .long)) := rfl
set_option maxRecDepth 100000 in
theorem ow_47 : lw_tbl[727]? = some (Cond.code yX6_fitting cX6_fitting 4 (some .long)) := rfl
set_option maxRecDepth 100000 in
theorem ow_48 : lw_tbl[261]? = some (Cond.code yX7_init cX7_init 1 none) := rfl
set_option maxRecDepth 100000 in
theorem ow_49 : lw_tbl[617]? = some (Cond.code yX7_price cX7_price 5 none) := rfl
set_option maxRecDepth 100000 in
theorem ow_50 : lw_tbl[621]? = some (Cond.code yX7_wear cX7_wear 3 none) := rfl
set_option maxRecDepth 100000 in
theorem ow_51 : lw_tbl[625]? = some (Cond.code yX7_cheapest cX7_cheapest 6 (some .int)) := rfl
set_option maxRecDepth 100000 in
theorem ow_52 : lw_tbl[631]? = some (Cond.code yX7_nearest cX7_nearest 4 (some .int)) := rfl
set_option maxRecDepth 100000 in
theorem ow_53 : lw_tbl[635]? = some (Cond.code yX7_goOn cX7_goOn 12 none) := rfl
set_option maxRecDepth 100000 in
theorem ow_54 : lw_tbl[642]? = some (Cond.code yX7_offer cX7_offer 3 none) := rfl
set_option maxRecDepth 100000 in
theorem ow_55 : lw_tbl[214]? = some (Cond.code yX8_init cX8_init 1 none) := rfl
set_option maxRecDepth 100000 in
theorem ow_56 : lw_tbl[524]? = some (Cond.code yX8_follow cX8_follow 7 none) := rfl
set_option maxRecDepth 100000 in
theorem ow_57 : lw_tbl[531]? = some (Cond.code yX8_putOn cX8_putOn 3 (some .int)) := rfl
set_option maxRecDepth 100000 in
theorem ow_58 : lw_tbl[537]? = some (Cond.code yX8_stride cX8_stride 5 (some .int)) := rfl
set_option maxRecDepth 100000 in
theorem ow_59 : lw_tbl[77]? = some (Cond.code yX9_init cX9_init 2 none) := rfl
set_option maxRecDepth 100000 in
theorem ow_60 : lw_tbl[424]? = some (Cond.code yX9_land cX9_land 3 (some .int)) := rfl
set_option maxRecDepth 100000 in
theorem ow_61 : lw_tbl[433]? = some (Cond.code yX9_say cX9_say 2 (some .int)) := rfl
set_option maxRecDepth 100000 in
theorem ow_62 : lw_tbl[437]? = some (Cond.code yX9_wipe cX9_wipe 2 (some .int)) := rfl
set_option maxRecDepth 100000 in
theorem ow_63 : lw_tbl[441]? = some (Cond.code yX9_fault cX9_fault 2 (some .int)) := rfl
set_option maxRecDepth 100000 in
theorem ow_64 : lw_tbl[463]? = some (Cond.code yX9_lay cX9_lay 1 (some .int)) := rfl
set_option maxRecDepth 100000 in
theorem ow_65 : lw_tbl[481]? = some (Cond.code yX9_cell cX9_cell 2 (some .int)) := rfl
set_option maxRecDepth 100000 in
theorem ow_66 : lw_tbl[490]? = some (Cond.code yX9_home cX9_home 3 (some .int)) := rfl
set_option maxRecDepth 100000 in
theorem ow_67 : lw_tbl[500]? = some (Cond.code yX9_change cX9_change 3 (some .int)) := rfl
set_option maxRecDepth 100000 in
theorem ow_68 : lw_tbl[506]? = some (Cond.code yX9_boots cX9_boots 4 (some .int)) := rfl
set_option maxRecDepth 100000 in
theorem ow_69 : lw_tbl[516]? = some (Cond.code yX9_minutes cX9_minutes 3 (some .int)) := rfl
set_option maxRecDepth 100000 in
theorem ow_70 : lw_tbl[520]? = some (Cond.code yX9_judge cX9_judge 2 (some .int)) := rfl
set_option maxRecDepth 100000 in
theorem ow_71 : lw_tbl[551]? = some (Cond.code yX9_leads cX9_leads 3 (some .long)) := rfl
set_option maxRecDepth 100000 in
theorem ow_72 : lw_tbl[566]? = some (Cond.code yX9_strides cX9_strides 5 (some .int)) := rfl
set_option maxRecDepth 100000 in
theorem ow_73 : lw_tbl[570]? = some (Cond.code yX9_far cX9_far 7 (some .int)) := rfl
set_option maxRecDepth 100000 in
theorem ow_74 : lw_tbl[609]? = some (Cond.code yX9_reached cX9_reached 3 (some .long)) := rfl
set_option maxRecDepth 100000 in
theorem ow_75 : lw_tbl[613]? = some (Cond.code yX9_worn cX9_worn 4 (some .int)) := rfl
set_option maxRecDepth 100000 in
theorem ow_76 : lw_tbl[647]? = some (Cond.code yX9_changed cX9_changed 7 (some .int)) := rfl
set_option maxRecDepth 100000 in
theorem ow_77 : lw_tbl[651]? = some (Cond.code yX9_time cX9_time 4 (some .int)) := rfl
set_option maxRecDepth 100000 in
theorem ow_78 : lw_tbl[655]? = some (Cond.code yX9_errands cX9_errands 5 (some .int)) := rfl
set_option maxRecDepth 100000 in
theorem ow_79 : lw_tbl[677]? = some (Cond.code yX9_person cX9_person 4 (some .int)) := rfl
set_option maxRecDepth 100000 in
theorem ow_80 : lw_tbl[687]? = some (Cond.code yX9_leave cX9_leave 2 (some .int)) := rfl
set_option maxRecDepth 100000 in
theorem ow_81 : lw_tbl[695]? = some (Cond.code yX9_meet cX9_meet 3 (some .int)) := rfl
set_option maxRecDepth 100000 in
theorem ow_82 : lw_tbl[710]? = some (Cond.code yX9_made cX9_made 8 (some .int)) := rfl
set_option maxRecDepth 100000 in
theorem ow_83 : lw_tbl[715]? = some (Cond.code yX9_seen cX9_seen 3 (some .int)) := rfl
set_option maxRecDepth 100000 in
theorem ow_84 : lw_tbl[719]? = some (Cond.code yX9_forget cX9_forget 2 (some .int)) := rfl
set_option maxRecDepth 100000 in
theorem ow_85 : lw_tbl[723]? = some (Cond.code yX9_where cX9_where 1 (some .long)) := rfl
set_option maxRecDepth 100000 in
theorem ow_86 : lw_tbl[731]? = some (Cond.code yX9_ask cX9_ask 8 (some .int)) := rfl
set_option maxRecDepth 100000 in
theorem ow_87 : lw_tbl[742]? = some (Cond.code yX9_after cX9_after 7 (some .long)) := rfl
set_option maxRecDepth 100000 in
theorem ow_88 : lw_tbl[748]? = some (Cond.code yX9_ways cX9_ways 6 (some .long)) := rfl
set_option maxRecDepth 100000 in
theorem ow_89 : lw_tbl[774]? = some (Cond.code yX9_chance cX9_chance 10 (some .long)) := rfl
set_option maxRecDepth 100000 in
theorem ow_90 : lw_tbl[787]? = some (Cond.code yX9_guard cX9_guard 6 (some .int)) := rfl
set_option maxRecDepth 100000 in
theorem ow_91 : lw_tbl[814]? = some (Cond.code yX9_posts cX9_posts 4 (some .int)) := rfl
set_option maxRecDepth 100000 in
theorem ow_92 : lw_tbl[836]? = some (Cond.code yX9_year cX9_year 11 (some .int)) := rfl
set_option maxRecDepth 100000 in
theorem ow_93 : lw_tbl[844]? = some (Cond.code yX9_image cX9_image 2 (some .int)) := rfl
set_option maxRecDepth 100000 in
theorem ow_94 : lw_tbl[853]? = some (Cond.code yX9_restore cX9_restore 2 (some .int)) := rfl
set_option maxRecDepth 100000 in
theorem ow_95 : lw_tbl[857]? = some (Cond.code yX9_told cX9_told 2 (some .int)) := rfl
set_option maxRecDepth 100000 in
theorem ow_96 : lw_tbl[861]? = some (Cond.code yX9_toldOfPerson cX9_toldOfPerson 3 (some .int)) := rfl
set_option maxRecDepth 100000 in
theorem ow_97 : lw_tbl[574]? = some (Cond.code yX9_canTravel cX9_canTravel 4 (some .boolean)) := rfl
set_option maxRecDepth 100000 in
theorem ow_98 : lw_tbl[735]? = some (Cond.code yX9_mostLeft cX9_mostLeft 7 (some .int)) := rfl
set_option maxRecDepth 100000 in
theorem ow_99 : lw_tbl[512]? = some (Cond.code yX9_put cX9_put 4 (some .int)) := rfl
set_option maxRecDepth 100000 in
theorem ow_100 : lw_tbl[840]? = some (Cond.code yX9_drawn cX9_drawn 7 (some .int)) := rfl
set_option maxRecDepth 100000 in
theorem ow_101 : lw_tbl[783]? = some (Cond.code yX9_commonDivisor cX9_commonDivisor 7 (some .long)) := rfl
set_option maxRecDepth 100000 in
theorem ow_102 : lw_tbl[427]? = some (Cond.code yX9_within cX9_within 3 (some .boolean)) := rfl
set_option maxRecDepth 100000 in
theorem ow_103 : lw_tbl[509]? = some (Cond.code yX9_isBoots cX9_isBoots 1 (some .boolean)) := rfl
set_option maxRecDepth 100000 in
theorem ow_104 : lw_tbl[119]? = some (Cond.code yX9_bit cX9_bit 1 (some .long)) := rfl
set_option maxRecDepth 100000 in
theorem ow_105 : lw_tbl[125]? = some (Cond.code yX9_has cX9_has 3 (some .boolean)) := rfl
set_option maxRecDepth 100000 in
theorem ow_106 : lw_tbl[122]? = some (Cond.code yX9_leastOf cX9_leastOf 3 (some .int)) := rfl
set_option maxRecDepth 100000 in
theorem ow_107 : lw_tbl[866]? = some (Cond.code yX10_init cX10_init 2 none) := rfl
set_option maxRecDepth 100000 in
theorem ow_108 : lw_tbl[1004]? = some (Cond.code yX10_in cX10_in 6 (some .boolean)) := rfl
set_option maxRecDepth 100000 in
theorem ow_109 : lw_tbl[1054]? = some (Cond.code yX10_ones cX10_ones 5 (some .int)) := rfl
set_option maxRecDepth 100000 in
theorem ow_110 : lw_tbl[1098]? = some (Cond.code yX10_has cX10_has 3 (some .boolean)) := rfl
set_option maxRecDepth 100000 in
theorem ow_111 : lw_tbl[871]? = some (Cond.code yX10_spread cX10_spread 4 none) := rfl
set_option maxRecDepth 100000 in
theorem ow_112 : lw_tbl[875]? = some (Cond.code yX10_forgetAll cX10_forgetAll 2 none) := rfl
set_option maxRecDepth 100000 in
theorem ow_113 : lw_tbl[1008]? = some (Cond.code yX10_cells cX10_cells 1 (some .int)) := rfl
set_option maxRecDepth 100000 in
theorem ow_114 : lw_tbl[1051]? = some (Cond.code yX10_isCell cX10_isCell 2 (some .boolean)) := rfl
set_option maxRecDepth 100000 in
theorem ow_115 : lw_tbl[1047]? = some (Cond.code yX10_isLand cX10_isLand 2 (some .boolean)) := rfl
set_option maxRecDepth 100000 in
theorem ow_116 : lw_tbl[1074]? = some (Cond.code yX10_areBoots cX10_areBoots 1 (some .boolean)) := rfl
set_option maxRecDepth 100000 in
theorem ow_117 : lw_tbl[1043]? = some (Cond.code yX10_allLand cX10_allLand 4 (some .long)) := rfl
set_option maxRecDepth 100000 in
theorem ow_118 : lw_tbl[1000]? = some (Cond.code yX10_land cX10_land 3 (some .int)) := rfl
set_option maxRecDepth 100000 in
theorem ow_119 : lw_tbl[1012]? = some (Cond.code yX10_say cX10_say 2 (some .int)) := rfl
set_option maxRecDepth 100000 in
theorem ow_120 : lw_tbl[1018]? = some (Cond.code yX10_wipe cX10_wipe 2 (some .int)) := rfl
set_option maxRecDepth 100000 in
theorem ow_121 : lw_tbl[1026]? = some (Cond.code yX10_faultOfLand cX10_faultOfLand 3 (some .int)) := rfl
set_option maxRecDepth 100000 in
theorem ow_122 : lw_tbl[1030]? = some (Cond.code yX10_faultOfWalk cX10_faultOfWalk 5 (some .int)) := rfl
set_option maxRecDepth 100000 in
theorem ow_123 : lw_tbl[1022]? = some (Cond.code yX10_fault cX10_fault 2 (some .int)) := rfl
set_option maxRecDepth 100000 in
theorem ow_124 : lw_tbl[1039]? = some (Cond.code yX10_lay cX10_lay 3 (some .int)) := rfl
set_option maxRecDepth 100000 in
theorem ow_125 : lw_tbl[1058]? = some (Cond.code yX10_cell cX10_cell 2 (some .int)) := rfl
set_option maxRecDepth 100000 in
theorem ow_126 : lw_tbl[1062]? = some (Cond.code yX10_home cX10_home 3 (some .int)) := rfl
set_option maxRecDepth 100000 in
theorem ow_127 : lw_tbl[1066]? = some (Cond.code yX10_change cX10_change 3 (some .int)) := rfl
set_option maxRecDepth 100000 in
theorem ow_128 : lw_tbl[1071]? = some (Cond.code yX10_boots cX10_boots 5 (some .int)) := rfl
set_option maxRecDepth 100000 in
theorem ow_129 : lw_tbl[1081]? = some (Cond.code yX10_minutes cX10_minutes 4 (some .int)) := rfl
set_option maxRecDepth 100000 in
theorem ow_130 : lw_tbl[1106]? = some (Cond.code yX10_square cX10_square 5 (some .int)) := rfl
set_option maxRecDepth 100000 in
theorem ow_131 : lw_tbl[1117]? = some (Cond.code yX10_leadsBy cX10_leadsBy 6 (some .long)) := rfl
set_option maxRecDepth 100000 in
theorem ow_132 : lw_tbl[1138]? = some (Cond.code yX10_layBy cX10_layBy 3 none) := rfl
set_option maxRecDepth 100000 in
theorem ow_133 : lw_tbl[1134]? = some (Cond.code yX10_putOn cX10_putOn 2 none) := rfl
set_option maxRecDepth 100000 in
theorem ow_134 : lw_tbl[1167]? = some (Cond.code yX10_layOther cX10_layOther 3 none) := rfl
set_option maxRecDepth 100000 in
theorem ow_135 : lw_tbl[1109]? = some (Cond.code yX10_wearOf cX10_wearOf 1 (some .int)) := rfl
set_option maxRecDepth 100000 in
theorem ow_136 : lw_tbl[1102]? = some (Cond.code yX10_whyNoStride cX10_whyNoStride 4 (some .int)) := rfl
set_option maxRecDepth 100000 in
theorem ow_137 : lw_tbl[1095]? = some (Cond.code yX10_whyNoChange cX10_whyNoChange 2 (some .int)) := rfl
set_option maxRecDepth 100000 in
theorem ow_138 : lw_tbl[1091]? = some (Cond.code yX10_goWalk cX10_goWalk 4 none) := rfl
set_option maxRecDepth 100000 in
theorem ow_139 : lw_tbl[1086]? = some (Cond.code yX10_judge cX10_judge 2 (some .int)) := rfl
set_option maxRecDepth 100000 in
theorem ow_140 : lw_tbl[1113]? = some (Cond.code yX10_leads cX10_leads 3 (some .long)) := rfl
set_option maxRecDepth 100000 in
theorem ow_141 : lw_tbl[1122]? = some (Cond.code yX10_strides cX10_strides 5 (some .int)) := rfl
set_option maxRecDepth 100000 in
theorem ow_142 : lw_tbl[1142]? = some (Cond.code yX10_findFar cX10_findFar 10 none) := rfl
set_option maxRecDepth 100000 in
theorem ow_143 : lw_tbl[1130]? = some (Cond.code yX10_isAsked cX10_isAsked 4 (some .boolean)) := rfl
set_option maxRecDepth 100000 in
theorem ow_144 : lw_tbl[1126]? = some (Cond.code yX10_far cX10_far 8 (some .int)) := rfl
set_option maxRecDepth 100000 in
theorem ow_145 : lw_tbl[1147]? = some (Cond.code yX10_reached cX10_reached 6 (some .long)) := rfl
set_option maxRecDepth 100000 in
theorem ow_146 : lw_tbl[1155]? = some (Cond.code yX10_beginCosts cX10_beginCosts 3 none) := rfl
set_option maxRecDepth 100000 in
theorem ow_147 : lw_tbl[1159]? = some (Cond.code yX10_cheapen cX10_cheapen 4 (some .boolean)) := rfl
set_option maxRecDepth 100000 in
theorem ow_148 : lw_tbl[1151]? = some (Cond.code yX10_worn cX10_worn 8 (some .int)) := rfl
set_option maxRecDepth 100000 in
theorem ow_149 : lw_tbl[1171]? = some (Cond.code yX10_changeOnce cX10_changeOnce 8 (some .boolean)) := rfl
set_option maxRecDepth 100000 in
theorem ow_150 : lw_tbl[1163]? = some (Cond.code yX10_changed cX10_changed 8 (some .int)) := rfl
set_option maxRecDepth 100000 in
theorem ow_151 : lw_tbl[1175]? = some (Cond.code yX10_time cX10_time 10 (some .int)) := rfl
set_option maxRecDepth 100000 in
theorem ow_152 : lw_tbl[1183]? = some (Cond.code yX10_isSet cX10_isSet 3 (some .boolean)) := rfl
set_option maxRecDepth 100000 in
theorem ow_153 : lw_tbl[1187]? = some (Cond.code yX10_layErrands cX10_layErrands 5 none) := rfl
set_option maxRecDepth 100000 in
theorem ow_154 : lw_tbl[1191]? = some (Cond.code yX10_stridesOfRow cX10_stridesOfRow 4 (some .int)) := rfl
set_option maxRecDepth 100000 in
theorem ow_155 : lw_tbl[1179]? = some (Cond.code yX10_errands cX10_errands 12 (some .int)) := rfl
set_option maxRecDepth 100000 in
theorem ow_156 : lw_tbl[1199]? = some (Cond.code yX10_isPerson cX10_isPerson 2 (some .boolean)) := rfl
set_option maxRecDepth 100000 in
theorem ow_157 : lw_tbl[1195]? = some (Cond.code yX10_person cX10_person 4 (some .int)) := rfl
set_option maxRecDepth 100000 in
theorem ow_158 : lw_tbl[1203]? = some (Cond.code yX10_leave cX10_leave 2 (some .int)) := rfl
set_option maxRecDepth 100000 in
theorem ow_159 : lw_tbl[1207]? = some (Cond.code yX10_meet cX10_meet 6 (some .int)) := rfl
set_option maxRecDepth 100000 in
theorem ow_160 : lw_tbl[1211]? = some (Cond.code yX10_made cX10_made 10 (some .int)) := rfl
set_option maxRecDepth 100000 in
theorem ow_161 : lw_tbl[1216]? = some (Cond.code yX10_seen cX10_seen 3 (some .int)) := rfl
set_option maxRecDepth 100000 in
theorem ow_162 : lw_tbl[1220]? = some (Cond.code yX10_forget cX10_forget 2 (some .int)) := rfl
set_option maxRecDepth 100000 in
theorem ow_163 : lw_tbl[1224]? = some (Cond.code yX10_where cX10_where 4 (some .long)) := rfl
set_option maxRecDepth 100000 in
theorem ow_164 : lw_tbl[1233]? = some (Cond.code yX10_mostBy cX10_mostBy 7 (some .int)) := rfl
set_option maxRecDepth 100000 in
theorem ow_165 : lw_tbl[1228]? = some (Cond.code yX10_ask cX10_ask 8 (some .int)) := rfl
set_option maxRecDepth 100000 in
theorem ow_166 : lw_tbl[1243]? = some (Cond.code yX10_findWays cX10_findWays 8 none) := rfl
set_option maxRecDepth 100000 in
theorem ow_167 : lw_tbl[1237]? = some (Cond.code yX10_after cX10_after 7 (some .long)) := rfl
set_option maxRecDepth 100000 in
theorem ow_168 : lw_tbl[1247]? = some (Cond.code yX10_ways cX10_ways 5 (some .long)) := rfl
set_option maxRecDepth 100000 in
theorem ow_169 : lw_tbl[1260]? = some (Cond.code yX10_common cX10_common 10 (some .long)) := rfl
set_option maxRecDepth 100000 in
theorem ow_170 : lw_tbl[1257]? = some (Cond.code yX10_findChances cX10_findChances 8 none) := rfl
set_option maxRecDepth 100000 in
theorem ow_171 : lw_tbl[1251]? = some (Cond.code yX10_chance cX10_chance 10 (some .long)) := rfl
set_option maxRecDepth 100000 in
theorem ow_172 : lw_tbl[1276]? = some (Cond.code yX10_mayGo cX10_mayGo 5 (some .boolean)) := rfl
set_option maxRecDepth 100000 in
theorem ow_173 : lw_tbl[1280]? = some (Cond.code yX10_worstFrom cX10_worstFrom 6 (some .int)) := rfl
set_option maxRecDepth 100000 in
theorem ow_174 : lw_tbl[1272]? = some (Cond.code yX10_bestFrom cX10_bestFrom 6 (some .int)) := rfl
set_option maxRecDepth 100000 in
theorem ow_175 : lw_tbl[1268]? = some (Cond.code yX10_findRounds cX10_findRounds 6 none) := rfl
set_option maxRecDepth 100000 in
theorem ow_176 : lw_tbl[1264]? = some (Cond.code yX10_guard cX10_guard 8 (some .int)) := rfl
set_option maxRecDepth 100000 in
theorem ow_177 : lw_tbl[1284]? = some (Cond.code yX10_posts cX10_posts 11 (some .int)) := rfl
set_option maxRecDepth 100000 in
theorem ow_178 : lw_tbl[1297]? = some (Cond.code yX10_nth cX10_nth 6 (some .int)) := rfl
set_option maxRecDepth 100000 in
theorem ow_179 : lw_tbl[1288]? = some (Cond.code yX10_year cX10_year 12 (some .int)) := rfl
set_option maxRecDepth 100000 in
theorem ow_180 : lw_tbl[1313]? = some (Cond.code yX10_carry cX10_carry 5 (some .long)) := rfl
set_option maxRecDepth 100000 in
theorem ow_181 : lw_tbl[1309]? = some (Cond.code yX10_pass cX10_pass 2 (some .int)) := rfl
set_option maxRecDepth 100000 in
theorem ow_182 : lw_tbl[1305]? = some (Cond.code yX10_passAll cX10_passAll 2 none) := rfl
set_option maxRecDepth 100000 in
theorem ow_183 : lw_tbl[1301]? = some (Cond.code yX10_image cX10_image 2 (some .int)) := rfl
set_option maxRecDepth 100000 in
theorem ow_184 : lw_tbl[1317]? = some (Cond.code yX10_restore cX10_restore 2 (some .int)) := rfl
set_option maxRecDepth 100000 in
theorem ow_185 : lw_tbl[1327]? = some (Cond.code yX10_toldOfPerson cX10_toldOfPerson 3 (some .int)) := rfl
set_option maxRecDepth 100000 in
theorem ow_186 : lw_tbl[1321]? = some (Cond.code yX10_told cX10_told 2 (some .int)) := rfl
set_option maxRecDepth 100000 in
theorem ow_187 : lw_tbl[680]? = some (Cond.code yJ6_bitCount_0f7a4 cJ6_bitCount_0f7a4 1 (some .int)) := rfl
set_option maxRecDepth 100000 in
theorem ow_188 : lw_tbl[474]? = some (Cond.code yJ13_bitCount_95d88 cJ13_bitCount_95d88 2 (some .int)) := rfl
set_option maxRecDepth 100000 in
theorem ow_189 : lw_tbl[128]? = some (Cond.code yJ9_max_7cf53 cJ9_max_7cf53 2 (some .int)) := rfl
set_option maxRecDepth 100000 in
theorem ow_190 : lw_tbl[448]? = some (Cond.code yJ9_min_7cf53 cJ9_min_7cf53 2 (some .int)) := rfl
set_option maxRecDepth 100000 in
theorem ow_191 : lw_tbl[756]? = some (Cond.code yJ7_fill_d0a16 cJ7_fill_d0a16 5 none) := rfl
set_option maxRecDepth 100000 in
theorem ow_192 : lw_tbl[527]? = some (Cond.code yJ7_fill_53178 cJ7_fill_53178 4 none) := rfl
theorem ok_codew {z : Nat} (hz : z < 193) : lw_tbl[am_cp z]? = some (Cond.code (am_y z) (am_by z) (am_ml z) (am_rt (am_mi z).2.2.1)) := by
  match z, hz with
  | 0, _ => exact ow_0
  | 1, _ => exact ow_1
  | 2, _ => exact ow_2
  | 3, _ => exact ow_3
  | 4, _ => exact ow_4
  | 5, _ => exact ow_5
  | 6, _ => exact ow_6
  | 7, _ => exact ow_7
  | 8, _ => exact ow_8
  | 9, _ => exact ow_9
  | 10, _ => exact ow_10
  | 11, _ => exact ow_11
  | 12, _ => exact ow_12
  | 13, _ => exact ow_13
  | 14, _ => exact ow_14
  | 15, _ => exact ow_15
  | 16, _ => exact ow_16
  | 17, _ => exact ow_17
  | 18, _ => exact ow_18
  | 19, _ => exact ow_19
  | 20, _ => exact ow_20
  | 21, _ => exact ow_21
  | 22, _ => exact ow_22
  | 23, _ => exact ow_23
  | 24, _ => exact ow_24
  | 25, _ => exact ow_25
  | 26, _ => exact ow_26
  | 27, _ => exact ow_27
  | 28, _ => exact ow_28
  | 29, _ => exact ow_29
  | 30, _ => exact ow_30
  | 31, _ => exact ow_31
  | 32, _ => exact ow_32
  | 33, _ => exact ow_33
  | 34, _ => exact ow_34
  | 35, _ => exact ow_35
  | 36, _ => exact ow_36
  | 37, _ => exact ow_37
  | 38, _ => exact ow_38
  | 39, _ => exact ow_39
  | 40, _ => exact ow_40
  | 41, _ => exact ow_41
  | 42, _ => exact ow_42
  | 43, _ => exact ow_43
  | 44, _ => exact ow_44
  | 45, _ => exact ow_45
  | 46, _ => exact ow_46
  | 47, _ => exact ow_47
  | 48, _ => exact ow_48
  | 49, _ => exact ow_49
  | 50, _ => exact ow_50
  | 51, _ => exact ow_51
  | 52, _ => exact ow_52
  | 53, _ => exact ow_53
  | 54, _ => exact ow_54
  | 55, _ => exact ow_55
  | 56, _ => exact ow_56
  | 57, _ => exact ow_57
  | 58, _ => exact ow_58
  | 59, _ => exact ow_59
  | 60, _ => exact ow_60
  | 61, _ => exact ow_61
  | 62, _ => exact ow_62
  | 63, _ => exact ow_63
  | 64, _ => exact ow_64
  | 65, _ => exact ow_65
  | 66, _ => exact ow_66
  | 67, _ => exact ow_67
  | 68, _ => exact ow_68
  | 69, _ => exact ow_69
  | 70, _ => exact ow_70
  | 71, _ => exact ow_71
  | 72, _ => exact ow_72
  | 73, _ => exact ow_73
  | 74, _ => exact ow_74
  | 75, _ => exact ow_75
  | 76, _ => exact ow_76
  | 77, _ => exact ow_77
  | 78, _ => exact ow_78
  | 79, _ => exact ow_79
  | 80, _ => exact ow_80
  | 81, _ => exact ow_81
  | 82, _ => exact ow_82
  | 83, _ => exact ow_83
  | 84, _ => exact ow_84
  | 85, _ => exact ow_85
  | 86, _ => exact ow_86
  | 87, _ => exact ow_87
  | 88, _ => exact ow_88
  | 89, _ => exact ow_89
  | 90, _ => exact ow_90
  | 91, _ => exact ow_91
  | 92, _ => exact ow_92
  | 93, _ => exact ow_93
  | 94, _ => exact ow_94
  | 95, _ => exact ow_95
  | 96, _ => exact ow_96
  | 97, _ => exact ow_97
  | 98, _ => exact ow_98
  | 99, _ => exact ow_99
  | 100, _ => exact ow_100
  | 101, _ => exact ow_101
  | 102, _ => exact ow_102
  | 103, _ => exact ow_103
  | 104, _ => exact ow_104
  | 105, _ => exact ow_105
  | 106, _ => exact ow_106
  | 107, _ => exact ow_107
  | 108, _ => exact ow_108
  | 109, _ => exact ow_109
  | 110, _ => exact ow_110
  | 111, _ => exact ow_111
  | 112, _ => exact ow_112
  | 113, _ => exact ow_113
  | 114, _ => exact ow_114
  | 115, _ => exact ow_115
  | 116, _ => exact ow_116
  | 117, _ => exact ow_117
  | 118, _ => exact ow_118
  | 119, _ => exact ow_119
  | 120, _ => exact ow_120
  | 121, _ => exact ow_121
  | 122, _ => exact ow_122
  | 123, _ => exact ow_123
  | 124, _ => exact ow_124
  | 125, _ => exact ow_125
  | 126, _ => exact ow_126
  | 127, _ => exact ow_127
  | 128, _ => exact ow_128
  | 129, _ => exact ow_129
  | 130, _ => exact ow_130
  | 131, _ => exact ow_131
  | 132, _ => exact ow_132
  | 133, _ => exact ow_133
  | 134, _ => exact ow_134
  | 135, _ => exact ow_135
  | 136, _ => exact ow_136
  | 137, _ => exact ow_137
  | 138, _ => exact ow_138
  | 139, _ => exact ow_139
  | 140, _ => exact ow_140
  | 141, _ => exact ow_141
  | 142, _ => exact ow_142
  | 143, _ => exact ow_143
  | 144, _ => exact ow_144
  | 145, _ => exact ow_145
  | 146, _ => exact ow_146
  | 147, _ => exact ow_147
  | 148, _ => exact ow_148
  | 149, _ => exact ow_149
  | 150, _ => exact ow_150
  | 151, _ => exact ow_151
  | 152, _ => exact ow_152
  | 153, _ => exact ow_153
  | 154, _ => exact ow_154
  | 155, _ => exact ow_155
  | 156, _ => exact ow_156
  | 157, _ => exact ow_157
  | 158, _ => exact ow_158
  | 159, _ => exact ow_159
  | 160, _ => exact ow_160
  | 161, _ => exact ow_161
  | 162, _ => exact ow_162
  | 163, _ => exact ow_163
  | 164, _ => exact ow_164
  | 165, _ => exact ow_165
  | 166, _ => exact ow_166
  | 167, _ => exact ow_167
  | 168, _ => exact ow_168
  | 169, _ => exact ow_169
  | 170, _ => exact ow_170
  | 171, _ => exact ow_171
  | 172, _ => exact ow_172
  | 173, _ => exact ow_173
  | 174, _ => exact ow_174
  | 175, _ => exact ow_175
  | 176, _ => exact ow_176
  | 177, _ => exact ow_177
  | 178, _ => exact ow_178
  | 179, _ => exact ow_179
  | 180, _ => exact ow_180
  | 181, _ => exact ow_181
  | 182, _ => exact ow_182
  | 183, _ => exact ow_183
  | 184, _ => exact ow_184
  | 185, _ => exact ow_185
  | 186, _ => exact ow_186
  | 187, _ => exact ow_187
  | 188, _ => exact ow_188
  | 189, _ => exact ow_189
  | 190, _ => exact ow_190
  | 191, _ => exact ow_191
  | 192, _ => exact ow_192
  | n + 193, h => exact absurd h (by omega)
