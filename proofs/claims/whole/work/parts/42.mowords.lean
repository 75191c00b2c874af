theorem mm_0 : Cond.fieldLink R_Mo 52 R_Mo "code" "I" ∈ GG := gin (mt_3 (List.mem_of_getElem? (i := 74) rfl)) rfl
theorem mm_1 : Cond.fieldLink R_Mo 9 R_Mo "size" "I" ∈ GG := gin (mt_3 (List.mem_of_getElem? (i := 76) rfl)) rfl
theorem mm_2 : Cond.fieldLink R_Mo 59 R_Mo "length" "I" ∈ GG := gin (mt_3 (List.mem_of_getElem? (i := 90) rfl)) rfl
theorem mm_3 : Cond.fieldLink R_Mo 48 R_Mo "state" "J" ∈ GG := gin (mt_3 (List.mem_of_getElem? (i := 75) rfl)) rfl
theorem mm_4 : Jvm.Cond.constantLong R_Mo 55 6364136223846793005 ∈ GG := gin (mt_3 (List.mem_of_getElem? (i := 154) rfl)) rfl
theorem mm_5 : Jvm.Cond.constantLong R_Mo 57 1442695040888963407 ∈ GG := gin (mt_3 (List.mem_of_getElem? (i := 155) rfl)) rfl
theorem mm_6 : Cond.fieldLink R_Mo 39 R_Mo "row" "[I" ∈ GG := gin (mt_3 (List.mem_of_getElem? (i := 91) rfl)) rfl
theorem mm_7 : Cond.methodLink R_Mo 66 y_Mo_put ∈ GG := gin (mt_3 (List.mem_of_getElem? (i := 156) rfl)) rfl
theorem mm_8 : Cond.instanceMethod y_Mo_put ∈ GG := gin (mt_3 (List.mem_of_getElem? (i := 158) rfl)) rfl
theorem mm_9 : Cond.selects R_Mo y_Mo_put y_Mo_put ∈ GG := gin (mp_2 (List.mem_map.mpr ⟨(y_Mo_put, 20), List.mem_of_getElem? (i := 3) rfl, rfl⟩)) rfl
theorem mm_10 : Cond.initialized R_Mo ∈ GG := gin (mt_1 (List.mem_of_getElem? (i := 6) rfl)) rfl
theorem mm_11 : Cond.code y_Mo_put b_Mo_put 2 none ∈ GG := gin (mt_3 (List.mem_of_getElem? (i := 159) rfl)) rfl
theorem mm_12 : Cond.methodLink R_Mo 62 y_Mo_below ∈ GG := gin (mt_3 (List.mem_of_getElem? (i := 150) rfl)) rfl
theorem mm_13 : Cond.instanceMethod y_Mo_below ∈ GG := gin (mt_3 (List.mem_of_getElem? (i := 152) rfl)) rfl
theorem mm_14 : Cond.selects R_Mo y_Mo_below y_Mo_below ∈ GG := gin (mp_2 (List.mem_map.mpr ⟨(y_Mo_below, 20), List.mem_of_getElem? (i := 2) rfl, rfl⟩)) rfl
theorem mm_15 : Cond.code y_Mo_below b_Mo_below 2 (some .int) ∈ GG := gin (mt_3 (List.mem_of_getElem? (i := 153) rfl)) rfl
theorem mm_16 : Cond.fieldLink R_Mo 77 R_Mo "places" "I" ∈ GG := gin (mt_3 (List.mem_of_getElem? (i := 80) rfl)) rfl
theorem mm_17 : Cond.fieldLink R_Mo 17 R_Mo "room" "[I" ∈ GG := gin (mt_3 (List.mem_of_getElem? (i := 81) rfl)) rfl
theorem mm_18 : Cond.fieldLink R_Mo 80 R_Mo "goods" "I" ∈ GG := gin (mt_3 (List.mem_of_getElem? (i := 82) rfl)) rfl
theorem mm_19 : Cond.fieldLink R_Mo 21 R_Mo "grams" "[I" ∈ GG := gin (mt_3 (List.mem_of_getElem? (i := 83) rfl)) rfl
theorem mm_20 : Cond.fieldLink R_Mo 83 R_Mo "acts" "I" ∈ GG := gin (mt_3 (List.mem_of_getElem? (i := 84) rfl)) rfl
theorem mm_21 : Cond.fieldLink R_Mo 24 R_Mo "at" "[I" ∈ GG := gin (mt_3 (List.mem_of_getElem? (i := 85) rfl)) rfl
theorem mm_22 : Cond.fieldLink R_Mo 27 R_Mo "of" "[I" ∈ GG := gin (mt_3 (List.mem_of_getElem? (i := 86) rfl)) rfl
theorem mm_23 : Cond.fieldLink R_Mo 30 R_Mo "many" "[I" ∈ GG := gin (mt_3 (List.mem_of_getElem? (i := 87) rfl)) rfl
theorem mm_24 : Cond.fieldLink R_Mo 33 R_Mo "takes" "[Z" ∈ GG := gin (mt_3 (List.mem_of_getElem? (i := 88) rfl)) rfl
theorem mm_25 : Cond.fieldLink R_Mo 36 R_Mo "lie" "[Z" ∈ GG := gin (mt_3 (List.mem_of_getElem? (i := 89) rfl)) rfl
theorem mm_26 : Cond.fieldLink R_Mo 86 R_Mo "parts" "I" ∈ GG := gin (mt_3 (List.mem_of_getElem? (i := 78) rfl)) rfl
theorem mm_27 : Cond.fieldLink R_Mo 13 R_Mo "out" "[Z" ∈ GG := gin (mt_3 (List.mem_of_getElem? (i := 79) rfl)) rfl
theorem mm_28 : Cond.methodLink R_Mo 74 y_Mo_drawRow ∈ GG := gin (mt_3 (List.mem_of_getElem? (i := 146) rfl)) rfl
theorem mm_29 : Cond.instanceMethod y_Mo_drawRow ∈ GG := gin (mt_3 (List.mem_of_getElem? (i := 148) rfl)) rfl
theorem mm_30 : Cond.selects R_Mo y_Mo_drawRow y_Mo_drawRow ∈ GG := gin (mp_2 (List.mem_map.mpr ⟨(y_Mo_drawRow, 20), List.mem_of_getElem? (i := 1) rfl, rfl⟩)) rfl
theorem mm_31 : Cond.code y_Mo_drawRow b_Mo_drawRow 6 none ∈ GG := gin (mt_3 (List.mem_of_getElem? (i := 149) rfl)) rfl
theorem mm_32 : Cond.methodLink R_Mo 70 y_Mo_in ∈ GG := gin (mt_3 (List.mem_of_getElem? (i := 143) rfl)) rfl
theorem mm_33 : Cond.static y_Mo_in ∈ GG := gin (mt_3 (List.mem_of_getElem? (i := 144) rfl)) rfl
theorem mm_34 : Cond.code y_Mo_in b_Mo_in 3 (some .boolean) ∈ GG := gin (mt_3 (List.mem_of_getElem? (i := 145) rfl)) rfl
theorem mm_35 : Cond.methodLink R_Mo 96 y_Mo_numberOf ∈ GG := gin (mt_3 (List.mem_of_getElem? (i := 176) rfl)) rfl
theorem mm_36 : Cond.instanceMethod y_Mo_numberOf ∈ GG := gin (mt_3 (List.mem_of_getElem? (i := 178) rfl)) rfl
theorem mm_37 : Cond.selects R_Mo y_Mo_numberOf y_Mo_numberOf ∈ GG := gin (mp_2 (List.mem_map.mpr ⟨(y_Mo_numberOf, 20), List.mem_of_getElem? (i := 6) rfl, rfl⟩)) rfl
theorem mm_38 : Cond.code y_Mo_numberOf b_Mo_numberOf 2 (some .int) ∈ GG := gin (mt_3 (List.mem_of_getElem? (i := 179) rfl)) rfl
theorem mm_39 : Cond.methodLink R_Mo 93 y_Mo_kindOf ∈ GG := gin (mt_3 (List.mem_of_getElem? (i := 172) rfl)) rfl
theorem mm_40 : Cond.instanceMethod y_Mo_kindOf ∈ GG := gin (mt_3 (List.mem_of_getElem? (i := 174) rfl)) rfl
theorem mm_41 : Cond.selects R_Mo y_Mo_kindOf y_Mo_kindOf ∈ GG := gin (mp_2 (List.mem_map.mpr ⟨(y_Mo_kindOf, 20), List.mem_of_getElem? (i := 5) rfl, rfl⟩)) rfl
theorem mm_42 : Cond.code y_Mo_kindOf b_Mo_kindOf 2 (some .int) ∈ GG := gin (mt_3 (List.mem_of_getElem? (i := 175) rfl)) rfl
theorem mm_43 : Cond.methodLink R_Mo 89 y_Mo_isPart ∈ GG := gin (mt_3 (List.mem_of_getElem? (i := 168) rfl)) rfl
theorem mm_44 : Cond.instanceMethod y_Mo_isPart ∈ GG := gin (mt_3 (List.mem_of_getElem? (i := 170) rfl)) rfl
theorem mm_45 : Cond.selects R_Mo y_Mo_isPart y_Mo_isPart ∈ GG := gin (mp_2 (List.mem_map.mpr ⟨(y_Mo_isPart, 20), List.mem_of_getElem? (i := 4) rfl, rfl⟩)) rfl
theorem mm_46 : Cond.code y_Mo_isPart b_Mo_isPart 2 (some .boolean) ∈ GG := gin (mt_3 (List.mem_of_getElem? (i := 171) rfl)) rfl
theorem mm_47 : Cond.fieldLink R_Mo 42 R_Mo "pieces" "[I" ∈ GG := gin (mt_3 (List.mem_of_getElem? (i := 92) rfl)) rfl
theorem mm_48 : Cond.fieldLink R_Mo 45 R_Mo "most" "[I" ∈ GG := gin (mt_3 (List.mem_of_getElem? (i := 93) rfl)) rfl
theorem mm_49 : Cond.methodLink R_Mo 102 y_Mo_gramsAt ∈ GG := gin (mt_3 (List.mem_of_getElem? (i := 192) rfl)) rfl
theorem mm_50 : Cond.instanceMethod y_Mo_gramsAt ∈ GG := gin (mt_3 (List.mem_of_getElem? (i := 194) rfl)) rfl
theorem mm_51 : Cond.selects R_Mo y_Mo_gramsAt y_Mo_gramsAt ∈ GG := gin (mp_2 (List.mem_map.mpr ⟨(y_Mo_gramsAt, 20), List.mem_of_getElem? (i := 9) rfl, rfl⟩)) rfl
theorem mm_52 : Cond.code y_Mo_gramsAt b_Mo_gramsAt 4 (some .int) ∈ GG := gin (mt_3 (List.mem_of_getElem? (i := 195) rfl)) rfl
theorem mm_53 : Cond.methodLink R_Mo 99 y_Mo_counts ∈ GG := gin (mt_3 (List.mem_of_getElem? (i := 188) rfl)) rfl
theorem mm_54 : Cond.instanceMethod y_Mo_counts ∈ GG := gin (mt_3 (List.mem_of_getElem? (i := 190) rfl)) rfl
theorem mm_55 : Cond.selects R_Mo y_Mo_counts y_Mo_counts ∈ GG := gin (mp_2 (List.mem_map.mpr ⟨(y_Mo_counts, 20), List.mem_of_getElem? (i := 8) rfl, rfl⟩)) rfl
theorem mm_56 : Cond.code y_Mo_counts b_Mo_counts 2 (some .boolean) ∈ GG := gin (mt_3 (List.mem_of_getElem? (i := 191) rfl)) rfl
theorem mm_57 : Cond.methodLink R_Mo 108 y_Mo_goThrough ∈ GG := gin (mt_3 (List.mem_of_getElem? (i := 184) rfl)) rfl
theorem mm_58 : Cond.instanceMethod y_Mo_goThrough ∈ GG := gin (mt_3 (List.mem_of_getElem? (i := 186) rfl)) rfl
theorem mm_59 : Cond.selects R_Mo y_Mo_goThrough y_Mo_goThrough ∈ GG := gin (mp_2 (List.mem_map.mpr ⟨(y_Mo_goThrough, 20), List.mem_of_getElem? (i := 7) rfl, rfl⟩)) rfl
theorem mm_60 : Cond.code y_Mo_goThrough b_Mo_goThrough 9 (some .int) ∈ GG := gin (mt_3 (List.mem_of_getElem? (i := 187) rfl)) rfl
theorem mm_61 : Cond.fieldLink R_Mo 105 R_Mo "wanted" "I" ∈ GG := gin (mt_3 (List.mem_of_getElem? (i := 77) rfl)) rfl
theorem mm_62 : Cond.methodLink R_Mo 112 y_Mo_isSo ∈ GG := gin (mt_3 (List.mem_of_getElem? (i := 200) rfl)) rfl
theorem mm_63 : Cond.instanceMethod y_Mo_isSo ∈ GG := gin (mt_3 (List.mem_of_getElem? (i := 202) rfl)) rfl
theorem mm_64 : Cond.selects R_Mo y_Mo_isSo y_Mo_isSo ∈ GG := gin (mp_2 (List.mem_map.mpr ⟨(y_Mo_isSo, 20), List.mem_of_getElem? (i := 10) rfl, rfl⟩)) rfl
theorem mm_65 : Cond.code y_Mo_isSo b_Mo_isSo 1 (some .boolean) ∈ GG := gin (mt_3 (List.mem_of_getElem? (i := 203) rfl)) rfl
theorem mm_66 : Cond.methodLink R_Mo 116 y_Mo_leftOnes ∈ GG := gin (mt_3 (List.mem_of_getElem? (i := 216) rfl)) rfl
theorem mm_67 : Cond.instanceMethod y_Mo_leftOnes ∈ GG := gin (mt_3 (List.mem_of_getElem? (i := 218) rfl)) rfl
theorem mm_68 : Cond.selects R_Mo y_Mo_leftOnes y_Mo_leftOnes ∈ GG := gin (mp_2 (List.mem_map.mpr ⟨(y_Mo_leftOnes, 20), List.mem_of_getElem? (i := 11) rfl, rfl⟩)) rfl
theorem mm_69 : Cond.code y_Mo_leftOnes b_Mo_leftOnes 3 (some .int) ∈ GG := gin (mt_3 (List.mem_of_getElem? (i := 219) rfl)) rfl
theorem mm_70 : Cond.methodLink R_Mo 119 y_Mo_isAlike ∈ GG := gin (mt_4 (List.mem_of_getElem? (i := 4) rfl)) rfl
theorem mm_71 : Cond.instanceMethod y_Mo_isAlike ∈ GG := gin (mt_4 (List.mem_of_getElem? (i := 6) rfl)) rfl
theorem mm_72 : Cond.selects R_Mo y_Mo_isAlike y_Mo_isAlike ∈ GG := gin (mp_2 (List.mem_map.mpr ⟨(y_Mo_isAlike, 20), List.mem_of_getElem? (i := 12) rfl, rfl⟩)) rfl
theorem mm_73 : Cond.code y_Mo_isAlike b_Mo_isAlike 3 (some .boolean) ∈ GG := gin (mt_4 (List.mem_of_getElem? (i := 7) rfl)) rfl
