theorem m_0 : Cond.fieldLink R_St 30 R_St "found" "I" ∈ GG := gin (mt_1 (List.mem_of_getElem? (i := 92) rfl)) rfl
theorem m_1 : Cond.fieldLink R_St 19 R_St "stock" "[I" ∈ GG := gin (mt_1 (List.mem_of_getElem? (i := 89) rfl)) rfl
theorem m_2 : Cond.fieldLink R_St 23 R_St "heaviest" "[I" ∈ GG := gin (mt_1 (List.mem_of_getElem? (i := 90) rfl)) rfl
theorem m_3 : Cond.fieldLink R_St 26 R_St "busy" "[Z" ∈ GG := gin (mt_1 (List.mem_of_getElem? (i := 91) rfl)) rfl
theorem m_4 : Cond.fieldLink R_St 9 R_St "drawing" "LStockDrawer$Drawing;" ∈ GG := gin (mt_1 (List.mem_of_getElem? (i := 87) rfl)) rfl
theorem m_5 : Cond.fieldLink R_Dr 15 R_Dr "parts" "I" ∈ GG := gin (mt_1 (List.mem_of_getElem? (i := 29) rfl)) rfl
theorem m_6 : Cond.fieldLink R_St 15 R_St "rest" "LStockDrawer$Rest;" ∈ GG := gin (mt_1 (List.mem_of_getElem? (i := 88) rfl)) rfl
theorem m_7 : Cond.fieldLink R_Re 9 R_Re "drawing" "LStockDrawer$Drawing;" ∈ GG := gin (mt_1 (List.mem_of_getElem? (i := 64) rfl)) rfl
theorem m_8 : Cond.fieldLink R_Re 15 R_Re "out" "[Z" ∈ GG := gin (mt_1 (List.mem_of_getElem? (i := 65) rfl)) rfl
theorem m_9 : Cond.methodLink R_Re 19 y_Dr_has ∈ GG := gin (mt_1 (List.mem_of_getElem? (i := 160) rfl)) rfl
theorem m_10 : Cond.instanceMethod y_Dr_has ∈ GG := gin (mt_1 (List.mem_of_getElem? (i := 161) rfl)) rfl
theorem m_11 : Cond.selects R_Dr y_Dr_has y_Dr_has ∈ GG := gin (mt_1 (List.mem_of_getElem? (i := 162) rfl)) rfl
theorem m_12 : Cond.initialized R_Dr ∈ GG := gin (mt_1 (List.mem_of_getElem? (i := 2) rfl)) rfl
theorem m_13 : Cond.code y_Dr_has b_Dr_has 2 (some .boolean) ∈ GG := gin (mt_1 (List.mem_of_getElem? (i := 163) rfl)) rfl
theorem m_14 : Cond.fieldLink R_Dr 18 R_Dr "places" "I" ∈ GG := gin (mt_1 (List.mem_of_getElem? (i := 30) rfl)) rfl
theorem m_15 : Cond.fieldLink R_Dr 21 R_Dr "goods" "I" ∈ GG := gin (mt_1 (List.mem_of_getElem? (i := 31) rfl)) rfl
theorem m_16 : Cond.fieldLink R_Dr 28 R_Dr "actPlaces" "[I" ∈ GG := gin (mt_1 (List.mem_of_getElem? (i := 33) rfl)) rfl
theorem m_17 : Cond.methodLink R_Dr 66 y_Dr_has ∈ GG := gin (mt_1 (List.mem_of_getElem? (i := 172) rfl)) rfl
theorem m_18 : Cond.fieldLink R_Dr 31 R_Dr "actGoods" "[I" ∈ GG := gin (mt_1 (List.mem_of_getElem? (i := 34) rfl)) rfl
theorem m_19 : Cond.methodLink R_Re 25 y_Re_isLeft ∈ GG := gin (mt_1 (List.mem_of_getElem? (i := 156) rfl)) rfl
theorem m_20 : Cond.instanceMethod y_Re_isLeft ∈ GG := gin (mt_1 (List.mem_of_getElem? (i := 157) rfl)) rfl
theorem m_21 : Cond.selects R_Re y_Re_isLeft y_Re_isLeft ∈ GG := gin (mt_1 (List.mem_of_getElem? (i := 158) rfl)) rfl
theorem m_22 : Cond.initialized R_Re ∈ GG := gin (mt_1 (List.mem_of_getElem? (i := 3) rfl)) rfl
theorem m_23 : Cond.code y_Re_isLeft b_Re_isLeft 2 (some .boolean) ∈ GG := gin (mt_1 (List.mem_of_getElem? (i := 159) rfl)) rfl
theorem m_24 : Cond.methodLink R_Re 38 y_Dr_partOfGood ∈ GG := gin (mt_1 (List.mem_of_getElem? (i := 177) rfl)) rfl
theorem m_25 : Cond.instanceMethod y_Dr_partOfGood ∈ GG := gin (mt_1 (List.mem_of_getElem? (i := 178) rfl)) rfl
theorem m_26 : Cond.selects R_Dr y_Dr_partOfGood y_Dr_partOfGood ∈ GG := gin (mt_1 (List.mem_of_getElem? (i := 179) rfl)) rfl
theorem m_27 : Cond.code y_Dr_partOfGood b_Dr_partOfGood 2 (some .int) ∈ GG := gin (mt_1 (List.mem_of_getElem? (i := 180) rfl)) rfl
theorem m_28 : Cond.methodLink R_Re 35 y_Dr_goodOf ∈ GG := gin (mt_1 (List.mem_of_getElem? (i := 173) rfl)) rfl
theorem m_29 : Cond.instanceMethod y_Dr_goodOf ∈ GG := gin (mt_1 (List.mem_of_getElem? (i := 174) rfl)) rfl
theorem m_30 : Cond.selects R_Dr y_Dr_goodOf y_Dr_goodOf ∈ GG := gin (mt_1 (List.mem_of_getElem? (i := 175) rfl)) rfl
theorem m_31 : Cond.code y_Dr_goodOf b_Dr_goodOf 2 (some .int) ∈ GG := gin (mt_1 (List.mem_of_getElem? (i := 176) rfl)) rfl
theorem m_32 : Cond.methodLink R_Re 32 y_Dr_placeOf ∈ GG := gin (mt_1 (List.mem_of_getElem? (i := 168) rfl)) rfl
theorem m_33 : Cond.instanceMethod y_Dr_placeOf ∈ GG := gin (mt_1 (List.mem_of_getElem? (i := 169) rfl)) rfl
theorem m_34 : Cond.selects R_Dr y_Dr_placeOf y_Dr_placeOf ∈ GG := gin (mt_1 (List.mem_of_getElem? (i := 170) rfl)) rfl
theorem m_35 : Cond.code y_Dr_placeOf b_Dr_placeOf 2 (some .int) ∈ GG := gin (mt_1 (List.mem_of_getElem? (i := 171) rfl)) rfl
theorem m_36 : Cond.methodLink R_Re 28 y_Dr_kindOf ∈ GG := gin (mt_1 (List.mem_of_getElem? (i := 164) rfl)) rfl
theorem m_37 : Cond.instanceMethod y_Dr_kindOf ∈ GG := gin (mt_1 (List.mem_of_getElem? (i := 165) rfl)) rfl
theorem m_38 : Cond.selects R_Dr y_Dr_kindOf y_Dr_kindOf ∈ GG := gin (mt_1 (List.mem_of_getElem? (i := 166) rfl)) rfl
theorem m_39 : Cond.code y_Dr_kindOf b_Dr_kindOf 2 (some .int) ∈ GG := gin (mt_1 (List.mem_of_getElem? (i := 167) rfl)) rfl
theorem m_40 : Cond.fieldLink R_Dr 24 R_Dr "amounts" "[I" ∈ GG := gin (mt_1 (List.mem_of_getElem? (i := 32) rfl)) rfl
theorem m_41 : Cond.fieldLink R_Dr 34 R_Dr "taking" "[Z" ∈ GG := gin (mt_1 (List.mem_of_getElem? (i := 35) rfl)) rfl
theorem m_42 : Cond.fieldLink R_Dr 38 R_Dr "lying" "[Z" ∈ GG := gin (mt_1 (List.mem_of_getElem? (i := 36) rfl)) rfl
theorem m_43 : Cond.methodLink R_St 82 y_Dr_lies ∈ GG := gin (mt_1 (List.mem_of_getElem? (i := 203) rfl)) rfl
theorem m_44 : Cond.instanceMethod y_Dr_lies ∈ GG := gin (mt_1 (List.mem_of_getElem? (i := 204) rfl)) rfl
theorem m_45 : Cond.selects R_Dr y_Dr_lies y_Dr_lies ∈ GG := gin (mt_1 (List.mem_of_getElem? (i := 205) rfl)) rfl
theorem m_46 : Cond.code y_Dr_lies b_Dr_lies 2 (some .boolean) ∈ GG := gin (mt_1 (List.mem_of_getElem? (i := 206) rfl)) rfl
theorem m_47 : Cond.methodLink R_St 79 y_Dr_takes ∈ GG := gin (mt_1 (List.mem_of_getElem? (i := 199) rfl)) rfl
theorem m_48 : Cond.instanceMethod y_Dr_takes ∈ GG := gin (mt_1 (List.mem_of_getElem? (i := 200) rfl)) rfl
theorem m_49 : Cond.selects R_Dr y_Dr_takes y_Dr_takes ∈ GG := gin (mt_1 (List.mem_of_getElem? (i := 201) rfl)) rfl
theorem m_50 : Cond.code y_Dr_takes b_Dr_takes 2 (some .boolean) ∈ GG := gin (mt_1 (List.mem_of_getElem? (i := 202) rfl)) rfl
theorem m_51 : Cond.methodLink R_St 76 y_Dr_amountOf ∈ GG := gin (mt_1 (List.mem_of_getElem? (i := 195) rfl)) rfl
theorem m_52 : Cond.instanceMethod y_Dr_amountOf ∈ GG := gin (mt_1 (List.mem_of_getElem? (i := 196) rfl)) rfl
theorem m_53 : Cond.selects R_Dr y_Dr_amountOf y_Dr_amountOf ∈ GG := gin (mt_1 (List.mem_of_getElem? (i := 197) rfl)) rfl
theorem m_54 : Cond.code y_Dr_amountOf b_Dr_amountOf 2 (some .int) ∈ GG := gin (mt_1 (List.mem_of_getElem? (i := 198) rfl)) rfl
theorem m_55 : Cond.methodLink R_St 70 y_Dr_hasGood ∈ GG := gin (mt_1 (List.mem_of_getElem? (i := 191) rfl)) rfl
theorem m_56 : Cond.instanceMethod y_Dr_hasGood ∈ GG := gin (mt_1 (List.mem_of_getElem? (i := 192) rfl)) rfl
theorem m_57 : Cond.selects R_Dr y_Dr_hasGood y_Dr_hasGood ∈ GG := gin (mt_1 (List.mem_of_getElem? (i := 193) rfl)) rfl
theorem m_58 : Cond.code y_Dr_hasGood b_Dr_hasGood 2 (some .boolean) ∈ GG := gin (mt_1 (List.mem_of_getElem? (i := 194) rfl)) rfl
theorem m_59 : Cond.methodLink R_St 67 y_Dr_hasPlace ∈ GG := gin (mt_1 (List.mem_of_getElem? (i := 187) rfl)) rfl
theorem m_60 : Cond.instanceMethod y_Dr_hasPlace ∈ GG := gin (mt_1 (List.mem_of_getElem? (i := 188) rfl)) rfl
theorem m_61 : Cond.selects R_Dr y_Dr_hasPlace y_Dr_hasPlace ∈ GG := gin (mt_1 (List.mem_of_getElem? (i := 189) rfl)) rfl
theorem m_62 : Cond.code y_Dr_hasPlace b_Dr_hasPlace 2 (some .boolean) ∈ GG := gin (mt_1 (List.mem_of_getElem? (i := 190) rfl)) rfl
theorem m_63 : Cond.methodLink R_St 73 y_Dr_goodOf ∈ GG := gin (mt_1 (List.mem_of_getElem? (i := 186) rfl)) rfl
theorem m_64 : Cond.methodLink R_St 53 y_Dr_placeOf ∈ GG := gin (mt_1 (List.mem_of_getElem? (i := 185) rfl)) rfl
theorem m_65 : Cond.methodLink R_St 92 Lib.Math.max.name ∈ GG := gin (mt_1 (List.mem_of_getElem? (i := 219) rfl)) rfl
theorem m_66 : Cond.static Lib.Math.max.name ∈ GG := gin (mt_1 (List.mem_of_getElem? (i := 220) rfl)) rfl
theorem m_67 : Cond.initialized "java/lang/Math" ∈ GG := gin (mt_1 (List.mem_of_getElem? (i := 13) rfl)) rfl
theorem m_68 : Cond.code Lib.Math.max.name Lib.Math.max.code 2 (some .int) ∈ GG := gin (mt_1 (List.mem_of_getElem? (i := 221) rfl)) rfl
theorem m_69 : Cond.methodLink R_St 97 y_Dr_partOfGood ∈ GG := gin (mt_1 (List.mem_of_getElem? (i := 222) rfl)) rfl
theorem m_70 : Cond.methodLink R_St 88 y_St_stockAt ∈ GG := gin (mt_1 (List.mem_of_getElem? (i := 215) rfl)) rfl
theorem m_71 : Cond.instanceMethod y_St_stockAt ∈ GG := gin (mt_1 (List.mem_of_getElem? (i := 216) rfl)) rfl
theorem m_72 : Cond.selects R_St y_St_stockAt y_St_stockAt ∈ GG := gin (mt_1 (List.mem_of_getElem? (i := 217) rfl)) rfl
theorem m_73 : Cond.initialized R_St ∈ GG := gin (mt_1 (List.mem_of_getElem? (i := 5) rfl)) rfl
theorem m_74 : Cond.code y_St_stockAt b_St_stockAt 3 (some .int) ∈ GG := gin (mt_1 (List.mem_of_getElem? (i := 218) rfl)) rfl
theorem m_75 : Cond.methodLink R_St 85 y_Dr_goodCount ∈ GG := gin (mt_1 (List.mem_of_getElem? (i := 211) rfl)) rfl
theorem m_76 : Cond.instanceMethod y_Dr_goodCount ∈ GG := gin (mt_1 (List.mem_of_getElem? (i := 212) rfl)) rfl
theorem m_77 : Cond.selects R_Dr y_Dr_goodCount y_Dr_goodCount ∈ GG := gin (mt_1 (List.mem_of_getElem? (i := 213) rfl)) rfl
theorem m_78 : Cond.code y_Dr_goodCount b_Dr_goodCount 1 (some .int) ∈ GG := gin (mt_1 (List.mem_of_getElem? (i := 214) rfl)) rfl
theorem m_79 : Cond.methodLink R_St 100 y_Dr_has ∈ GG := gin (mt_1 (List.mem_of_getElem? (i := 227) rfl)) rfl
theorem m_80 : Cond.methodLink R_St 60 y_St_compare ∈ GG := gin (mt_1 (List.mem_of_getElem? (i := 223) rfl)) rfl
theorem m_81 : Cond.instanceMethod y_St_compare ∈ GG := gin (mt_1 (List.mem_of_getElem? (i := 225) rfl)) rfl
theorem m_82 : Cond.selects R_St y_St_compare y_St_compare ∈ GG := gin (mp_1 (List.mem_map.mpr ⟨(y_St_compare, 6), List.mem_of_getElem? (i := 3) rfl, rfl⟩)) rfl
theorem m_83 : Cond.code y_St_compare b_St_compare 3 none ∈ GG := gin (mt_1 (List.mem_of_getElem? (i := 226) rfl)) rfl
theorem m_84 : Cond.methodLink R_St 57 y_St_weigh ∈ GG := gin (mt_1 (List.mem_of_getElem? (i := 207) rfl)) rfl
theorem m_85 : Cond.instanceMethod y_St_weigh ∈ GG := gin (mt_1 (List.mem_of_getElem? (i := 209) rfl)) rfl
theorem m_86 : Cond.selects R_St y_St_weigh y_St_weigh ∈ GG := gin (mp_1 (List.mem_map.mpr ⟨(y_St_weigh, 6), List.mem_of_getElem? (i := 2) rfl, rfl⟩)) rfl
theorem m_87 : Cond.code y_St_weigh b_St_weigh 4 none ∈ GG := gin (mt_1 (List.mem_of_getElem? (i := 210) rfl)) rfl
theorem m_88 : Cond.methodLink R_St 49 y_St_carryOut ∈ GG := gin (mt_1 (List.mem_of_getElem? (i := 181) rfl)) rfl
theorem m_89 : Cond.instanceMethod y_St_carryOut ∈ GG := gin (mt_1 (List.mem_of_getElem? (i := 183) rfl)) rfl
theorem m_90 : Cond.selects R_St y_St_carryOut y_St_carryOut ∈ GG := gin (mp_1 (List.mem_map.mpr ⟨(y_St_carryOut, 6), List.mem_of_getElem? (i := 1) rfl, rfl⟩)) rfl
theorem m_91 : Cond.code y_St_carryOut b_St_carryOut 6 none ∈ GG := gin (mt_1 (List.mem_of_getElem? (i := 184) rfl)) rfl
theorem m_92 : Cond.methodLink R_St 43 y_Re_isActThatCounts ∈ GG := gin (mt_1 (List.mem_of_getElem? (i := 152) rfl)) rfl
theorem m_93 : Cond.instanceMethod y_Re_isActThatCounts ∈ GG := gin (mt_1 (List.mem_of_getElem? (i := 153) rfl)) rfl
theorem m_94 : Cond.selects R_Re y_Re_isActThatCounts y_Re_isActThatCounts ∈ GG := gin (mt_1 (List.mem_of_getElem? (i := 154) rfl)) rfl
theorem m_95 : Cond.code y_Re_isActThatCounts b_Re_isActThatCounts 2 (some .boolean) ∈ GG := gin (mt_1 (List.mem_of_getElem? (i := 155) rfl)) rfl
theorem m_96 : Cond.methodLink R_St 37 y_Dr_partCount ∈ GG := gin (mt_1 (List.mem_of_getElem? (i := 148) rfl)) rfl
theorem m_97 : Cond.instanceMethod y_Dr_partCount ∈ GG := gin (mt_1 (List.mem_of_getElem? (i := 149) rfl)) rfl
theorem m_98 : Cond.selects R_Dr y_Dr_partCount y_Dr_partCount ∈ GG := gin (mt_1 (List.mem_of_getElem? (i := 150) rfl)) rfl
theorem m_99 : Cond.code y_Dr_partCount b_Dr_partCount 1 (some .int) ∈ GG := gin (mt_1 (List.mem_of_getElem? (i := 151) rfl)) rfl
theorem m_100 : Cond.methodLink R_St 109 y_St_isBusy ∈ GG := gin (mt_1 (List.mem_of_getElem? (i := 237) rfl)) rfl
theorem m_101 : Cond.instanceMethod y_St_isBusy ∈ GG := gin (mt_1 (List.mem_of_getElem? (i := 239) rfl)) rfl
theorem m_102 : Cond.selects R_St y_St_isBusy y_St_isBusy ∈ GG := gin (mp_1 (List.mem_map.mpr ⟨(y_St_isBusy, 6), List.mem_of_getElem? (i := 5) rfl, rfl⟩)) rfl
theorem m_103 : Cond.code y_St_isBusy b_St_isBusy 2 (some .boolean) ∈ GG := gin (mt_2 (List.mem_of_getElem? (i := 0) rfl)) rfl
theorem m_104 : Cond.methodLink R_St 106 y_Re_isLeft ∈ GG := gin (mt_1 (List.mem_of_getElem? (i := 236) rfl)) rfl
theorem m_105 : Cond.methodLink R_St 103 y_Dr_placeCount ∈ GG := gin (mt_1 (List.mem_of_getElem? (i := 232) rfl)) rfl
theorem m_106 : Cond.instanceMethod y_Dr_placeCount ∈ GG := gin (mt_1 (List.mem_of_getElem? (i := 233) rfl)) rfl
theorem m_107 : Cond.selects R_Dr y_Dr_placeCount y_Dr_placeCount ∈ GG := gin (mt_1 (List.mem_of_getElem? (i := 234) rfl)) rfl
theorem m_108 : Cond.code y_Dr_placeCount b_Dr_placeCount 1 (some .int) ∈ GG := gin (mt_1 (List.mem_of_getElem? (i := 235) rfl)) rfl
theorem m_109 : Cond.methodLink R_St 64 y_St_lookAtTheEnd ∈ GG := gin (mt_1 (List.mem_of_getElem? (i := 228) rfl)) rfl
theorem m_110 : Cond.instanceMethod y_St_lookAtTheEnd ∈ GG := gin (mt_1 (List.mem_of_getElem? (i := 230) rfl)) rfl
theorem m_111 : Cond.selects R_St y_St_lookAtTheEnd y_St_lookAtTheEnd ∈ GG := gin (mp_1 (List.mem_map.mpr ⟨(y_St_lookAtTheEnd, 6), List.mem_of_getElem? (i := 4) rfl, rfl⟩)) rfl
theorem m_112 : Cond.code y_St_lookAtTheEnd b_St_lookAtTheEnd 4 none ∈ GG := gin (mt_1 (List.mem_of_getElem? (i := 231) rfl)) rfl
theorem m_113 : Cond.methodLink R_St 34 y_St_forget ∈ GG := gin (mt_1 (List.mem_of_getElem? (i := 144) rfl)) rfl
theorem m_114 : Cond.instanceMethod y_St_forget ∈ GG := gin (mt_1 (List.mem_of_getElem? (i := 146) rfl)) rfl
theorem m_115 : Cond.selects R_St y_St_forget y_St_forget ∈ GG := gin (mp_1 (List.mem_map.mpr ⟨(y_St_forget, 6), List.mem_of_getElem? (i := 0) rfl, rfl⟩)) rfl
theorem m_116 : Cond.code y_St_forget b_St_forget 2 none ∈ GG := gin (mt_1 (List.mem_of_getElem? (i := 147) rfl)) rfl
theorem m_117 : Cond.fieldLink R_SD 39 R_SD "story" "LStockDrawer$Story;" ∈ GG := gin (mt_1 (List.mem_of_getElem? (i := 109) rfl)) rfl
theorem m_118 : Cond.fieldLink R_SD 49 R_SD "asked" "I" ∈ GG := gin (mt_1 (List.mem_of_getElem? (i := 112) rfl)) rfl
theorem m_119 : Cond.methodLink R_SD 120 y_St_tell ∈ GG := gin (mt_1 (List.mem_of_getElem? (i := 140) rfl)) rfl
theorem m_120 : Cond.instanceMethod y_St_tell ∈ GG := gin (mt_1 (List.mem_of_getElem? (i := 141) rfl)) rfl
theorem m_121 : Cond.selects R_St y_St_tell y_St_tell ∈ GG := gin (mt_1 (List.mem_of_getElem? (i := 142) rfl)) rfl
theorem m_122 : Cond.code y_St_tell b_St_tell 3 (some .int) ∈ GG := gin (mt_1 (List.mem_of_getElem? (i := 143) rfl)) rfl
theorem m_123 : Cond.fieldLink R_SD 26 R_SD "drawing" "LStockDrawer$Drawing;" ∈ GG := gin (mt_1 (List.mem_of_getElem? (i := 107) rfl)) rfl
theorem m_124 : Cond.fieldLink R_SD 30 R_SD "rest" "LStockDrawer$Rest;" ∈ GG := gin (mt_1 (List.mem_of_getElem? (i := 108) rfl)) rfl
theorem m_125 : Cond.methodLink R_SD 112 y_Re_setOut ∈ GG := gin (mt_2 (List.mem_of_getElem? (i := 19) rfl)) rfl
theorem m_126 : Cond.instanceMethod y_Re_setOut ∈ GG := gin (mt_2 (List.mem_of_getElem? (i := 20) rfl)) rfl
theorem m_127 : Cond.selects R_Re y_Re_setOut y_Re_setOut ∈ GG := gin (mt_2 (List.mem_of_getElem? (i := 21) rfl)) rfl
theorem m_128 : Cond.code y_Re_setOut b_Re_setOut 3 none ∈ GG := gin (mt_2 (List.mem_of_getElem? (i := 22) rfl)) rfl
theorem m_129 : Cond.methodLink R_SD 116 y_SD_verdictIsMet ∈ GG := gin (mt_2 (List.mem_of_getElem? (i := 5) rfl)) rfl
theorem m_130 : Cond.instanceMethod y_SD_verdictIsMet ∈ GG := gin (mt_2 (List.mem_of_getElem? (i := 7) rfl)) rfl
theorem m_131 : Cond.selects R_SD y_SD_verdictIsMet y_SD_verdictIsMet ∈ GG := gin (mp_1 (List.mem_map.mpr ⟨(y_SD_verdictIsMet, 7), List.mem_of_getElem? (i := 6) rfl, rfl⟩)) rfl
theorem m_132 : Cond.initialized R_SD ∈ GG := gin (mt_1 (List.mem_of_getElem? (i := 1) rfl)) rfl
theorem m_133 : Cond.code y_SD_verdictIsMet b_SD_verdictIsMet 1 (some .boolean) ∈ GG := gin (mt_2 (List.mem_of_getElem? (i := 8) rfl)) rfl
theorem m_134 : Cond.methodLink R_SD 133 y_SD_verdictIsMetWithout ∈ GG := gin (mt_2 (List.mem_of_getElem? (i := 15) rfl)) rfl
theorem m_135 : Cond.instanceMethod y_SD_verdictIsMetWithout ∈ GG := gin (mt_2 (List.mem_of_getElem? (i := 17) rfl)) rfl
theorem m_136 : Cond.selects R_SD y_SD_verdictIsMetWithout y_SD_verdictIsMetWithout ∈ GG := gin (mp_1 (List.mem_map.mpr ⟨(y_SD_verdictIsMetWithout, 7), List.mem_of_getElem? (i := 7) rfl, rfl⟩)) rfl
theorem m_137 : Cond.code y_SD_verdictIsMetWithout b_SD_verdictIsMetWithout 3 (some .boolean) ∈ GG := gin (mt_2 (List.mem_of_getElem? (i := 18) rfl)) rfl
theorem m_138 : Cond.methodLink R_SD 104 y_Re_isLeft ∈ GG := gin (mt_2 (List.mem_of_getElem? (i := 14) rfl)) rfl
theorem m_139 : Cond.methodLink R_SD 64 y_Dr_partCount ∈ GG := gin (mt_2 (List.mem_of_getElem? (i := 13) rfl)) rfl
theorem m_140 : Cond.fieldLink R_SD 22 R_SD "source" "LStockDrawer$Source;" ∈ GG := gin (mt_1 (List.mem_of_getElem? (i := 106) rfl)) rfl
theorem m_141 : Cond.fieldLink R_So 7 R_So "state" "J" ∈ GG := gin (mt_1 (List.mem_of_getElem? (i := 77) rfl)) rfl
theorem m_142 : Cond.methodLink R_SD 68 y_So_restart ∈ GG := gin (mt_1 (List.mem_of_getElem? (i := 132) rfl)) rfl
theorem m_143 : Cond.instanceMethod y_So_restart ∈ GG := gin (mt_1 (List.mem_of_getElem? (i := 133) rfl)) rfl
theorem m_144 : Cond.selects R_So y_So_restart y_So_restart ∈ GG := gin (mt_1 (List.mem_of_getElem? (i := 134) rfl)) rfl
theorem m_145 : Cond.initialized R_So ∈ GG := gin (mt_1 (List.mem_of_getElem? (i := 4) rfl)) rfl
theorem m_146 : Cond.code y_So_restart b_So_restart 3 none ∈ GG := gin (mt_1 (List.mem_of_getElem? (i := 135) rfl)) rfl
theorem m_147 : Cond.methodLink R_Re 41 y_Dr_partCount ∈ GG := gin (mt_2 (List.mem_of_getElem? (i := 31) rfl)) rfl
theorem m_148 : Cond.methodLink R_SD 61 y_Re_takeAllBack ∈ GG := gin (mt_2 (List.mem_of_getElem? (i := 32) rfl)) rfl
theorem m_149 : Cond.instanceMethod y_Re_takeAllBack ∈ GG := gin (mt_2 (List.mem_of_getElem? (i := 33) rfl)) rfl
theorem m_150 : Cond.selects R_Re y_Re_takeAllBack y_Re_takeAllBack ∈ GG := gin (mt_2 (List.mem_of_getElem? (i := 34) rfl)) rfl
theorem m_151 : Cond.code y_Re_takeAllBack b_Re_takeAllBack 2 none ∈ GG := gin (mt_2 (List.mem_of_getElem? (i := 35) rfl)) rfl
theorem m_152 : Cond.methodLink R_SD 130 y_Re_leftCount ∈ GG := gin (mt_2 (List.mem_of_getElem? (i := 27) rfl)) rfl
theorem m_153 : Cond.instanceMethod y_Re_leftCount ∈ GG := gin (mt_2 (List.mem_of_getElem? (i := 28) rfl)) rfl
theorem m_154 : Cond.selects R_Re y_Re_leftCount y_Re_leftCount ∈ GG := gin (mt_2 (List.mem_of_getElem? (i := 29) rfl)) rfl
theorem m_155 : Cond.code y_Re_leftCount b_Re_leftCount 3 (some .int) ∈ GG := gin (mt_2 (List.mem_of_getElem? (i := 30) rfl)) rfl
theorem m_156 : Cond.fieldLink R_Dr 9 R_Dr "size" "I" ∈ GG := gin (mt_1 (List.mem_of_getElem? (i := 28) rfl)) rfl
theorem m_157 : Jvm.Cond.constantLong R_So 13 6364136223846793005 ∈ GG := gin (mt_2 (List.mem_of_getElem? (i := 151) rfl)) rfl
theorem m_158 : Jvm.Cond.constantLong R_So 15 1442695040888963407 ∈ GG := gin (mt_2 (List.mem_of_getElem? (i := 152) rfl)) rfl
theorem m_159 : Cond.methodLink R_Dr 55 y_Dr_add ∈ GG := gin (mt_2 (List.mem_of_getElem? (i := 157) rfl)) rfl
theorem m_160 : Cond.instanceMethod y_Dr_add ∈ GG := gin (mt_2 (List.mem_of_getElem? (i := 159) rfl)) rfl
theorem m_161 : Cond.selects R_Dr y_Dr_add y_Dr_add ∈ GG := gin (mp_1 (List.mem_map.mpr ⟨(y_Dr_add, 9), List.mem_of_getElem? (i := 11) rfl, rfl⟩)) rfl
theorem m_162 : Cond.code y_Dr_add b_Dr_add 6 none ∈ GG := gin (mt_2 (List.mem_of_getElem? (i := 160) rfl)) rfl
theorem m_163 : Cond.methodLink R_Dr 47 y_Dr_addThing ∈ GG := gin (mt_2 (List.mem_of_getElem? (i := 153) rfl)) rfl
theorem m_164 : Cond.instanceMethod y_Dr_addThing ∈ GG := gin (mt_2 (List.mem_of_getElem? (i := 155) rfl)) rfl
theorem m_165 : Cond.selects R_Dr y_Dr_addThing y_Dr_addThing ∈ GG := gin (mp_1 (List.mem_map.mpr ⟨(y_Dr_addThing, 9), List.mem_of_getElem? (i := 10) rfl, rfl⟩)) rfl
theorem m_166 : Cond.code y_Dr_addThing b_Dr_addThing 2 none ∈ GG := gin (mt_2 (List.mem_of_getElem? (i := 156) rfl)) rfl
theorem m_167 : Cond.methodLink R_Dr 41 y_So_below ∈ GG := gin (mt_2 (List.mem_of_getElem? (i := 147) rfl)) rfl
theorem m_168 : Cond.instanceMethod y_So_below ∈ GG := gin (mt_2 (List.mem_of_getElem? (i := 148) rfl)) rfl
theorem m_169 : Cond.selects R_So y_So_below y_So_below ∈ GG := gin (mt_2 (List.mem_of_getElem? (i := 149) rfl)) rfl
theorem m_170 : Cond.code y_So_below b_So_below 2 (some .int) ∈ GG := gin (mt_2 (List.mem_of_getElem? (i := 150) rfl)) rfl
theorem m_171 : Cond.methodLink R_Dr 51 y_Dr_addAct ∈ GG := gin (mt_2 (List.mem_of_getElem? (i := 161) rfl)) rfl
theorem m_172 : Cond.instanceMethod y_Dr_addAct ∈ GG := gin (mt_2 (List.mem_of_getElem? (i := 163) rfl)) rfl
theorem m_173 : Cond.selects R_Dr y_Dr_addAct y_Dr_addAct ∈ GG := gin (mp_1 (List.mem_map.mpr ⟨(y_Dr_addAct, 9), List.mem_of_getElem? (i := 12) rfl, rfl⟩)) rfl
theorem m_174 : Cond.code y_Dr_addAct b_Dr_addAct 7 none ∈ GG := gin (mt_2 (List.mem_of_getElem? (i := 164) rfl)) rfl
theorem m_175 : Cond.methodLink R_SD 163 y_Dr_placeCount ∈ GG := gin (mt_2 (List.mem_of_getElem? (i := 40) rfl)) rfl
theorem m_176 : Cond.methodLink R_SD 166 y_Dr_goodCount ∈ GG := gin (mt_2 (List.mem_of_getElem? (i := 41) rfl)) rfl
theorem m_177 : Cond.methodLink R_SD 169 y_Dr_actCount ∈ GG := gin (mt_2 (List.mem_of_getElem? (i := 42) rfl)) rfl
theorem m_178 : Cond.instanceMethod y_Dr_actCount ∈ GG := gin (mt_2 (List.mem_of_getElem? (i := 43) rfl)) rfl
theorem m_179 : Cond.selects R_Dr y_Dr_actCount y_Dr_actCount ∈ GG := gin (mt_2 (List.mem_of_getElem? (i := 44) rfl)) rfl
theorem m_180 : Cond.code y_Dr_actCount b_Dr_actCount 1 (some .int) ∈ GG := gin (mt_2 (List.mem_of_getElem? (i := 45) rfl)) rfl
theorem m_181 : Cond.methodLink R_Dr 59 y_Dr_lies ∈ GG := gin (mt_2 (List.mem_of_getElem? (i := 50) rfl)) rfl
theorem m_182 : Cond.methodLink R_SD 172 y_Dr_lieCount ∈ GG := gin (mt_2 (List.mem_of_getElem? (i := 46) rfl)) rfl
theorem m_183 : Cond.instanceMethod y_Dr_lieCount ∈ GG := gin (mt_2 (List.mem_of_getElem? (i := 47) rfl)) rfl
theorem m_184 : Cond.selects R_Dr y_Dr_lieCount y_Dr_lieCount ∈ GG := gin (mt_2 (List.mem_of_getElem? (i := 48) rfl)) rfl
theorem m_185 : Cond.code y_Dr_lieCount b_Dr_lieCount 3 (some .int) ∈ GG := gin (mt_2 (List.mem_of_getElem? (i := 49) rfl)) rfl
theorem m_186 : Cond.methodLink R_Re 45 y_Re_isActThatCounts ∈ GG := gin (mt_2 (List.mem_of_getElem? (i := 55) rfl)) rfl
theorem m_187 : Cond.methodLink R_SD 175 y_Re_countingActs ∈ GG := gin (mt_2 (List.mem_of_getElem? (i := 51) rfl)) rfl
theorem m_188 : Cond.instanceMethod y_Re_countingActs ∈ GG := gin (mt_2 (List.mem_of_getElem? (i := 52) rfl)) rfl
theorem m_189 : Cond.selects R_Re y_Re_countingActs y_Re_countingActs ∈ GG := gin (mt_2 (List.mem_of_getElem? (i := 53) rfl)) rfl
theorem m_190 : Cond.code y_Re_countingActs b_Re_countingActs 3 (some .int) ∈ GG := gin (mt_2 (List.mem_of_getElem? (i := 54) rfl)) rfl
theorem m_191 : Cond.methodLink R_SD 178 y_Dr_drawnSize ∈ GG := gin (mt_2 (List.mem_of_getElem? (i := 56) rfl)) rfl
theorem m_192 : Cond.instanceMethod y_Dr_drawnSize ∈ GG := gin (mt_2 (List.mem_of_getElem? (i := 57) rfl)) rfl
theorem m_193 : Cond.selects R_Dr y_Dr_drawnSize y_Dr_drawnSize ∈ GG := gin (mt_2 (List.mem_of_getElem? (i := 58) rfl)) rfl
theorem m_194 : Cond.code y_Dr_drawnSize b_Dr_drawnSize 1 (some .int) ∈ GG := gin (mt_2 (List.mem_of_getElem? (i := 59) rfl)) rfl
theorem m_195 : Cond.methodLink R_Dr 82 y_Dr_takes ∈ GG := gin (mt_3 (List.mem_of_getElem? (i := 67) rfl)) rfl
theorem m_196 : Cond.methodLink R_Dr 79 y_Dr_goodOf ∈ GG := gin (mt_3 (List.mem_of_getElem? (i := 66) rfl)) rfl
theorem m_197 : Cond.methodLink R_Dr 76 y_Dr_placeOf ∈ GG := gin (mt_3 (List.mem_of_getElem? (i := 65) rfl)) rfl
theorem m_198 : Cond.methodLink R_Dr 73 y_Dr_amountOf ∈ GG := gin (mt_3 (List.mem_of_getElem? (i := 64) rfl)) rfl
theorem m_199 : Cond.methodLink R_Dr 69 y_Dr_isPartLike ∈ GG := gin (mt_3 (List.mem_of_getElem? (i := 60) rfl)) rfl
theorem m_200 : Cond.instanceMethod y_Dr_isPartLike ∈ GG := gin (mt_3 (List.mem_of_getElem? (i := 62) rfl)) rfl
theorem m_201 : Cond.selects R_Dr y_Dr_isPartLike y_Dr_isPartLike ∈ GG := gin (mp_2 (List.mem_map.mpr ⟨(y_Dr_isPartLike, 9), List.mem_of_getElem? (i := 0) rfl, rfl⟩)) rfl
theorem m_202 : Cond.code y_Dr_isPartLike b_Dr_isPartLike 3 (some .boolean) ∈ GG := gin (mt_3 (List.mem_of_getElem? (i := 63) rfl)) rfl
theorem m_203 : Cond.methodLink R_Dr 63 y_Dr_kindOf ∈ GG := gin (mt_2 (List.mem_of_getElem? (i := 200) rfl)) rfl
