theorem ml_0 : Cond.methodLink R_La 64 y_Mo_thrown ∈ GG := gin (mt_3 (List.mem_of_getElem? (i := 135) rfl)) rfl
theorem ml_1 : Cond.instanceMethod y_Mo_thrown ∈ GG := gin (mt_3 (List.mem_of_getElem? (i := 136) rfl)) rfl
theorem ml_2 : Cond.selects R_Mo y_Mo_thrown y_Mo_thrown ∈ GG := gin (mt_3 (List.mem_of_getElem? (i := 137) rfl)) rfl
theorem ml_3 : Cond.initialized R_Mo ∈ GG := gin (mt_1 (List.mem_of_getElem? (i := 6) rfl)) rfl
theorem ml_4 : Cond.code y_Mo_thrown b_Mo_thrown 1 (some .int) ∈ GG := gin (mt_3 (List.mem_of_getElem? (i := 138) rfl)) rfl
theorem ml_5 : Cond.methodLink R_La 63 y_Mo_draw ∈ GG := gin (mt_3 (List.mem_of_getElem? (i := 139) rfl)) rfl
theorem ml_6 : Cond.instanceMethod y_Mo_draw ∈ GG := gin (mt_3 (List.mem_of_getElem? (i := 140) rfl)) rfl
theorem ml_7 : Cond.selects R_Mo y_Mo_draw y_Mo_draw ∈ GG := gin (mt_3 (List.mem_of_getElem? (i := 141) rfl)) rfl
theorem ml_8 : Cond.code y_Mo_draw b_Mo_draw 4 (some .int) ∈ GG := gin (mt_3 (List.mem_of_getElem? (i := 142) rfl)) rfl
theorem ml_9 : Cond.methodLink R_La 60 y_La_draw ∈ GG := gin (mt_2 (List.mem_of_getElem? (i := 63) rfl)) rfl
theorem ml_10 : Cond.static y_La_draw ∈ GG := gin (mt_2 (List.mem_of_getElem? (i := 64) rfl)) rfl
theorem ml_11 : Cond.initialized R_La ∈ GG := gin (mt_1 (List.mem_of_getElem? (i := 0) rfl)) rfl
theorem ml_12 : Cond.codeWith y_La_draw b_La_draw 4 (some .int) [(0, 9, 12, 13)] ∈ GG := gin (mt_2 (List.mem_of_getElem? (i := 65) rfl)) rfl
theorem ml_13 : Jvm.Cond.constantLong R_La 67 4294967295 ∈ GG := gin (mt_4 (List.mem_of_getElem? (i := 12) rfl)) rfl
theorem ml_14 : Cond.methodLink R_La 73 y_Mo_again ∈ GG := gin (mt_3 (List.mem_of_getElem? (i := 160) rfl)) rfl
theorem ml_15 : Cond.instanceMethod y_Mo_again ∈ GG := gin (mt_3 (List.mem_of_getElem? (i := 161) rfl)) rfl
theorem ml_16 : Cond.selects R_Mo y_Mo_again y_Mo_again ∈ GG := gin (mt_3 (List.mem_of_getElem? (i := 162) rfl)) rfl
theorem ml_17 : Cond.code y_Mo_again b_Mo_again 3 none ∈ GG := gin (mt_3 (List.mem_of_getElem? (i := 163) rfl)) rfl
theorem ml_18 : Cond.methodLink R_La 69 y_SD_again ∈ GG := gin (mt_1 (List.mem_of_getElem? (i := 128) rfl)) rfl
theorem ml_19 : Cond.instanceMethod y_SD_again ∈ GG := gin (mt_1 (List.mem_of_getElem? (i := 129) rfl)) rfl
theorem ml_20 : Cond.selects R_SD y_SD_again y_SD_again ∈ GG := gin (mt_1 (List.mem_of_getElem? (i := 130) rfl)) rfl
theorem ml_21 : Cond.initialized R_SD ∈ GG := gin (mt_1 (List.mem_of_getElem? (i := 1) rfl)) rfl
theorem ml_22 : Cond.code y_SD_again b_SD_again 3 none ∈ GG := gin (mt_1 (List.mem_of_getElem? (i := 131) rfl)) rfl
theorem ml_23 : Cond.methodLink R_La 77 y_Mo_part ∈ GG := gin (mt_3 (List.mem_of_getElem? (i := 164) rfl)) rfl
theorem ml_24 : Cond.instanceMethod y_Mo_part ∈ GG := gin (mt_3 (List.mem_of_getElem? (i := 165) rfl)) rfl
theorem ml_25 : Cond.selects R_Mo y_Mo_part y_Mo_part ∈ GG := gin (mt_3 (List.mem_of_getElem? (i := 166) rfl)) rfl
theorem ml_26 : Cond.code y_Mo_part b_Mo_part 5 (some .int) ∈ GG := gin (mt_3 (List.mem_of_getElem? (i := 167) rfl)) rfl
theorem ml_27 : Cond.methodLink R_La 74 y_La_part ∈ GG := gin (mt_2 (List.mem_of_getElem? (i := 165) rfl)) rfl
theorem ml_28 : Cond.static y_La_part ∈ GG := gin (mt_2 (List.mem_of_getElem? (i := 166) rfl)) rfl
theorem ml_29 : Cond.codeWith y_La_part b_La_part 5 (some .int) [(0, 10, 13, 19), (0, 10, 17, 13)] ∈ GG := gin (mt_2 (List.mem_of_getElem? (i := 167) rfl)) rfl
theorem ml_30 : Cond.methodLink R_La 81 y_Mo_leave ∈ GG := gin (mt_3 (List.mem_of_getElem? (i := 208) rfl)) rfl
theorem ml_31 : Cond.instanceMethod y_Mo_leave ∈ GG := gin (mt_3 (List.mem_of_getElem? (i := 209) rfl)) rfl
theorem ml_32 : Cond.selects R_Mo y_Mo_leave y_Mo_leave ∈ GG := gin (mt_3 (List.mem_of_getElem? (i := 210) rfl)) rfl
theorem ml_33 : Cond.code y_Mo_leave b_Mo_leave 3 (some .boolean) ∈ GG := gin (mt_3 (List.mem_of_getElem? (i := 211) rfl)) rfl
theorem ml_34 : Cond.methodLink R_La 78 y_La_leave ∈ GG := gin (mt_2 (List.mem_of_getElem? (i := 206) rfl)) rfl
theorem ml_35 : Cond.static y_La_leave ∈ GG := gin (mt_2 (List.mem_of_getElem? (i := 207) rfl)) rfl
theorem ml_36 : Cond.codeWith y_La_leave b_La_leave 5 (some .int) [(0, 17, 20, 19), (0, 17, 24, 25)] ∈ GG := gin (mt_2 (List.mem_of_getElem? (i := 208) rfl)) rfl
theorem ml_37 : Cond.methodLink R_La 85 y_Mo_conditions ∈ GG := gin (mt_3 (List.mem_of_getElem? (i := 180) rfl)) rfl
theorem ml_38 : Cond.instanceMethod y_Mo_conditions ∈ GG := gin (mt_3 (List.mem_of_getElem? (i := 181) rfl)) rfl
theorem ml_39 : Cond.selects R_Mo y_Mo_conditions y_Mo_conditions ∈ GG := gin (mt_3 (List.mem_of_getElem? (i := 182) rfl)) rfl
theorem ml_40 : Cond.code y_Mo_conditions b_Mo_conditions 1 (some .int) ∈ GG := gin (mt_3 (List.mem_of_getElem? (i := 183) rfl)) rfl
theorem ml_41 : Cond.methodLink R_La 82 y_SD_conditions ∈ GG := gin (mt_1 (List.mem_of_getElem? (i := 136) rfl)) rfl
theorem ml_42 : Cond.instanceMethod y_SD_conditions ∈ GG := gin (mt_1 (List.mem_of_getElem? (i := 137) rfl)) rfl
theorem ml_43 : Cond.selects R_SD y_SD_conditions y_SD_conditions ∈ GG := gin (mt_1 (List.mem_of_getElem? (i := 138) rfl)) rfl
theorem ml_44 : Cond.code y_SD_conditions b_SD_conditions 1 (some .int) ∈ GG := gin (mt_1 (List.mem_of_getElem? (i := 139) rfl)) rfl
theorem ml_45 : Cond.methodLink R_La 88 y_Mo_verdict ∈ GG := gin (mt_3 (List.mem_of_getElem? (i := 196) rfl)) rfl
theorem ml_46 : Cond.instanceMethod y_Mo_verdict ∈ GG := gin (mt_3 (List.mem_of_getElem? (i := 197) rfl)) rfl
theorem ml_47 : Cond.selects R_Mo y_Mo_verdict y_Mo_verdict ∈ GG := gin (mt_3 (List.mem_of_getElem? (i := 198) rfl)) rfl
theorem ml_48 : Cond.code y_Mo_verdict b_Mo_verdict 2 (some .boolean) ∈ GG := gin (mt_3 (List.mem_of_getElem? (i := 199) rfl)) rfl
theorem ml_49 : Cond.methodLink R_La 86 y_La_verdict ∈ GG := gin (mt_2 (List.mem_of_getElem? (i := 230) rfl)) rfl
theorem ml_50 : Cond.static y_La_verdict ∈ GG := gin (mt_2 (List.mem_of_getElem? (i := 231) rfl)) rfl
theorem ml_51 : Cond.codeWith y_La_verdict b_La_verdict 4 (some .int) [(0, 16, 19, 13)] ∈ GG := gin (mt_2 (List.mem_of_getElem? (i := 232) rfl)) rfl
theorem ml_52 : Cond.methodLink R_La 93 y_Mo_holds ∈ GG := gin (mt_3 (List.mem_of_getElem? (i := 204) rfl)) rfl
theorem ml_53 : Cond.instanceMethod y_Mo_holds ∈ GG := gin (mt_3 (List.mem_of_getElem? (i := 205) rfl)) rfl
theorem ml_54 : Cond.selects R_Mo y_Mo_holds y_Mo_holds ∈ GG := gin (mt_3 (List.mem_of_getElem? (i := 206) rfl)) rfl
theorem ml_55 : Cond.code y_Mo_holds b_Mo_holds 1 (some .boolean) ∈ GG := gin (mt_3 (List.mem_of_getElem? (i := 207) rfl)) rfl
theorem ml_56 : Cond.methodLink R_La 89 y_SD_holds ∈ GG := gin (mt_2 (List.mem_of_getElem? (i := 1) rfl)) rfl
theorem ml_57 : Cond.instanceMethod y_SD_holds ∈ GG := gin (mt_2 (List.mem_of_getElem? (i := 2) rfl)) rfl
theorem ml_58 : Cond.selects R_SD y_SD_holds y_SD_holds ∈ GG := gin (mt_2 (List.mem_of_getElem? (i := 3) rfl)) rfl
theorem ml_59 : Cond.code y_SD_holds b_SD_holds 1 (some .boolean) ∈ GG := gin (mt_2 (List.mem_of_getElem? (i := 4) rfl)) rfl
theorem ml_60 : Cond.methodLink R_La 97 y_Mo_shorter ∈ GG := gin (mt_3 (List.mem_of_getElem? (i := 212) rfl)) rfl
theorem ml_61 : Cond.instanceMethod y_Mo_shorter ∈ GG := gin (mt_3 (List.mem_of_getElem? (i := 213) rfl)) rfl
theorem ml_62 : Cond.selects R_Mo y_Mo_shorter y_Mo_shorter ∈ GG := gin (mt_3 (List.mem_of_getElem? (i := 214) rfl)) rfl
theorem ml_63 : Cond.code y_Mo_shorter b_Mo_shorter 3 (some .int) ∈ GG := gin (mt_3 (List.mem_of_getElem? (i := 215) rfl)) rfl
theorem ml_64 : Cond.methodLink R_La 94 y_La_shorter ∈ GG := gin (mt_2 (List.mem_of_getElem? (i := 238) rfl)) rfl
theorem ml_65 : Cond.static y_La_shorter ∈ GG := gin (mt_2 (List.mem_of_getElem? (i := 239) rfl)) rfl
theorem ml_66 : Cond.codeWith y_La_shorter b_La_shorter 3 (some .int) [(0, 8, 11, 25)] ∈ GG := gin (mt_3 (List.mem_of_getElem? (i := 0) rfl)) rfl
theorem ml_67 : Cond.methodLink R_La 101 y_Mo_minimal ∈ GG := gin (mt_3 (List.mem_of_getElem? (i := 220) rfl)) rfl
theorem ml_68 : Cond.instanceMethod y_Mo_minimal ∈ GG := gin (mt_3 (List.mem_of_getElem? (i := 221) rfl)) rfl
theorem ml_69 : Cond.selects R_Mo y_Mo_minimal y_Mo_minimal ∈ GG := gin (mt_3 (List.mem_of_getElem? (i := 222) rfl)) rfl
theorem ml_70 : Cond.code y_Mo_minimal b_Mo_minimal 3 (some .boolean) ∈ GG := gin (mt_3 (List.mem_of_getElem? (i := 223) rfl)) rfl
theorem ml_71 : Cond.methodLink R_La 98 y_SD_minimal ∈ GG := gin (mt_2 (List.mem_of_getElem? (i := 9) rfl)) rfl
theorem ml_72 : Cond.instanceMethod y_SD_minimal ∈ GG := gin (mt_2 (List.mem_of_getElem? (i := 10) rfl)) rfl
theorem ml_73 : Cond.selects R_SD y_SD_minimal y_SD_minimal ∈ GG := gin (mt_2 (List.mem_of_getElem? (i := 11) rfl)) rfl
theorem ml_74 : Cond.code y_SD_minimal b_SD_minimal 2 (some .boolean) ∈ GG := gin (mt_2 (List.mem_of_getElem? (i := 12) rfl)) rfl
theorem ml_75 : Cond.methodLink R_La 104 y_Mo_left ∈ GG := gin (mt_3 (List.mem_of_getElem? (i := 224) rfl)) rfl
theorem ml_76 : Cond.instanceMethod y_Mo_left ∈ GG := gin (mt_3 (List.mem_of_getElem? (i := 225) rfl)) rfl
theorem ml_77 : Cond.selects R_Mo y_Mo_left y_Mo_left ∈ GG := gin (mt_3 (List.mem_of_getElem? (i := 226) rfl)) rfl
theorem ml_78 : Cond.code y_Mo_left b_Mo_left 4 (some .int) ∈ GG := gin (mt_3 (List.mem_of_getElem? (i := 227) rfl)) rfl
theorem ml_79 : Cond.methodLink R_La 102 y_La_left ∈ GG := gin (mt_3 (List.mem_of_getElem? (i := 10) rfl)) rfl
theorem ml_80 : Cond.static y_La_left ∈ GG := gin (mt_3 (List.mem_of_getElem? (i := 11) rfl)) rfl
theorem ml_81 : Cond.codeWith y_La_left b_La_left 4 (some .int) [(0, 9, 12, 19)] ∈ GG := gin (mt_3 (List.mem_of_getElem? (i := 12) rfl)) rfl
theorem ml_82 : Cond.methodLink R_La 108 y_Mo_whole ∈ GG := gin (mt_3 (List.mem_of_getElem? (i := 228) rfl)) rfl
theorem ml_83 : Cond.instanceMethod y_Mo_whole ∈ GG := gin (mt_3 (List.mem_of_getElem? (i := 229) rfl)) rfl
theorem ml_84 : Cond.selects R_Mo y_Mo_whole y_Mo_whole ∈ GG := gin (mt_3 (List.mem_of_getElem? (i := 230) rfl)) rfl
theorem ml_85 : Cond.code y_Mo_whole b_Mo_whole 3 (some .int) ∈ GG := gin (mt_3 (List.mem_of_getElem? (i := 231) rfl)) rfl
theorem ml_86 : Cond.methodLink R_La 105 y_SD_whole ∈ GG := gin (mt_2 (List.mem_of_getElem? (i := 23) rfl)) rfl
theorem ml_87 : Cond.instanceMethod y_SD_whole ∈ GG := gin (mt_2 (List.mem_of_getElem? (i := 24) rfl)) rfl
theorem ml_88 : Cond.selects R_SD y_SD_whole y_SD_whole ∈ GG := gin (mt_2 (List.mem_of_getElem? (i := 25) rfl)) rfl
theorem ml_89 : Cond.code y_SD_whole b_SD_whole 2 (some .int) ∈ GG := gin (mt_2 (List.mem_of_getElem? (i := 26) rfl)) rfl
theorem ml_90 : Cond.methodLink R_La 111 y_Mo_pieces ∈ GG := gin (mt_3 (List.mem_of_getElem? (i := 232) rfl)) rfl
theorem ml_91 : Cond.instanceMethod y_Mo_pieces ∈ GG := gin (mt_3 (List.mem_of_getElem? (i := 233) rfl)) rfl
theorem ml_92 : Cond.selects R_Mo y_Mo_pieces y_Mo_pieces ∈ GG := gin (mt_3 (List.mem_of_getElem? (i := 234) rfl)) rfl
theorem ml_93 : Cond.code y_Mo_pieces b_Mo_pieces 3 (some .int) ∈ GG := gin (mt_3 (List.mem_of_getElem? (i := 235) rfl)) rfl
theorem ml_94 : Cond.methodLink R_La 109 y_La_pieces ∈ GG := gin (mt_3 (List.mem_of_getElem? (i := 22) rfl)) rfl
theorem ml_95 : Cond.static y_La_pieces ∈ GG := gin (mt_3 (List.mem_of_getElem? (i := 23) rfl)) rfl
theorem ml_96 : Cond.codeWith y_La_pieces b_La_pieces 5 (some .int) [(0, 10, 13, 19)] ∈ GG := gin (mt_3 (List.mem_of_getElem? (i := 24) rfl)) rfl
theorem ml_97 : Cond.methodLink R_La 114 y_Mo_most ∈ GG := gin (mt_3 (List.mem_of_getElem? (i := 236) rfl)) rfl
theorem ml_98 : Cond.instanceMethod y_Mo_most ∈ GG := gin (mt_3 (List.mem_of_getElem? (i := 237) rfl)) rfl
theorem ml_99 : Cond.selects R_Mo y_Mo_most y_Mo_most ∈ GG := gin (mt_3 (List.mem_of_getElem? (i := 238) rfl)) rfl
theorem ml_100 : Cond.code y_Mo_most b_Mo_most 2 (some .int) ∈ GG := gin (mt_3 (List.mem_of_getElem? (i := 239) rfl)) rfl
theorem ml_101 : Cond.methodLink R_La 112 y_La_most ∈ GG := gin (mt_3 (List.mem_of_getElem? (i := 38) rfl)) rfl
theorem ml_102 : Cond.static y_La_most ∈ GG := gin (mt_3 (List.mem_of_getElem? (i := 39) rfl)) rfl
theorem ml_103 : Cond.codeWith y_La_most b_La_most 4 (some .int) [(0, 9, 12, 19)] ∈ GG := gin (mt_3 (List.mem_of_getElem? (i := 40) rfl)) rfl
theorem ml_104 : Cond.methodLink R_La 118 y_Mo_same ∈ GG := gin (mt_4 (List.mem_of_getElem? (i := 0) rfl)) rfl
theorem ml_105 : Cond.instanceMethod y_Mo_same ∈ GG := gin (mt_4 (List.mem_of_getElem? (i := 1) rfl)) rfl
theorem ml_106 : Cond.selects R_Mo y_Mo_same y_Mo_same ∈ GG := gin (mt_4 (List.mem_of_getElem? (i := 2) rfl)) rfl
theorem ml_107 : Cond.code y_Mo_same b_Mo_same 6 (some .boolean) ∈ GG := gin (mt_4 (List.mem_of_getElem? (i := 3) rfl)) rfl
theorem ml_108 : Cond.methodLink R_La 115 y_La_same ∈ GG := gin (mt_3 (List.mem_of_getElem? (i := 49) rfl)) rfl
theorem ml_109 : Cond.static y_La_same ∈ GG := gin (mt_3 (List.mem_of_getElem? (i := 50) rfl)) rfl
theorem ml_110 : Cond.codeWith y_La_same b_La_same 6 (some .int) [(0, 18, 21, 13)] ∈ GG := gin (mt_3 (List.mem_of_getElem? (i := 51) rfl)) rfl
theorem ml_111 : Cond.methodLink R_La 122 y_Mo_count ∈ GG := gin (mt_4 (List.mem_of_getElem? (i := 8) rfl)) rfl
theorem ml_112 : Cond.instanceMethod y_Mo_count ∈ GG := gin (mt_4 (List.mem_of_getElem? (i := 9) rfl)) rfl
theorem ml_113 : Cond.selects R_Mo y_Mo_count y_Mo_count ∈ GG := gin (mt_4 (List.mem_of_getElem? (i := 10) rfl)) rfl
theorem ml_114 : Cond.code y_Mo_count b_Mo_count 4 (some .int) ∈ GG := gin (mt_4 (List.mem_of_getElem? (i := 11) rfl)) rfl
theorem ml_115 : Cond.methodLink R_La 119 y_SD_count ∈ GG := gin (mt_2 (List.mem_of_getElem? (i := 36) rfl)) rfl
theorem ml_116 : Cond.instanceMethod y_SD_count ∈ GG := gin (mt_2 (List.mem_of_getElem? (i := 37) rfl)) rfl
theorem ml_117 : Cond.selects R_SD y_SD_count y_SD_count ∈ GG := gin (mt_2 (List.mem_of_getElem? (i := 38) rfl)) rfl
theorem ml_118 : Cond.code y_SD_count b_SD_count 2 (some .int) ∈ GG := gin (mt_2 (List.mem_of_getElem? (i := 39) rfl)) rfl
