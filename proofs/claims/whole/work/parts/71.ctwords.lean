theorem mc_0 : Cond.methodLink R_So 1 Lib.objectInit ∈ GG := gin (mt_1 (List.mem_of_getElem? (i := 76) rfl)) rfl
theorem mc_1 : Cond.instanceMethod Lib.objectInit ∈ GG := gin (mt_1 (List.mem_of_getElem? (i := 20) rfl)) rfl
theorem mc_2 : Cond.code Lib.objectInit ⟨#[0xb1]⟩ 1 none ∈ GG := gin (mt_1 (List.mem_of_getElem? (i := 21) rfl)) rfl
theorem mc_3 : Cond.fieldLink R_So 7 R_So "state" "J" ∈ GG := gin (mt_1 (List.mem_of_getElem? (i := 77) rfl)) rfl
theorem mc_4 : Cond.methodLink R_Dr 3 Lib.objectInit ∈ GG := gin (mt_1 (List.mem_of_getElem? (i := 27) rfl)) rfl
theorem mc_5 : Cond.fieldLink R_Dr 9 R_Dr "size" "I" ∈ GG := gin (mt_1 (List.mem_of_getElem? (i := 28) rfl)) rfl
theorem mc_6 : Cond.fieldLink R_Dr 15 R_Dr "parts" "I" ∈ GG := gin (mt_1 (List.mem_of_getElem? (i := 29) rfl)) rfl
theorem mc_7 : Cond.fieldLink R_Dr 18 R_Dr "places" "I" ∈ GG := gin (mt_1 (List.mem_of_getElem? (i := 30) rfl)) rfl
theorem mc_8 : Cond.fieldLink R_Dr 21 R_Dr "goods" "I" ∈ GG := gin (mt_1 (List.mem_of_getElem? (i := 31) rfl)) rfl
theorem mc_9 : Cond.arrayClass .int ∈ GG := gin (mt_1 (List.mem_of_getElem? (i := 56) rfl)) rfl
theorem mc_10 : Cond.fieldLink R_Dr 24 R_Dr "amounts" "[I" ∈ GG := gin (mt_1 (List.mem_of_getElem? (i := 32) rfl)) rfl
theorem mc_11 : Cond.fieldLink R_Dr 28 R_Dr "actPlaces" "[I" ∈ GG := gin (mt_1 (List.mem_of_getElem? (i := 33) rfl)) rfl
theorem mc_12 : Cond.fieldLink R_Dr 31 R_Dr "actGoods" "[I" ∈ GG := gin (mt_1 (List.mem_of_getElem? (i := 34) rfl)) rfl
theorem mc_13 : Cond.arrayClass .boolean ∈ GG := gin (mt_1 (List.mem_of_getElem? (i := 57) rfl)) rfl
theorem mc_14 : Cond.fieldLink R_Dr 34 R_Dr "taking" "[Z" ∈ GG := gin (mt_1 (List.mem_of_getElem? (i := 35) rfl)) rfl
theorem mc_15 : Cond.fieldLink R_Dr 38 R_Dr "lying" "[Z" ∈ GG := gin (mt_1 (List.mem_of_getElem? (i := 36) rfl)) rfl
theorem mc_16 : Cond.methodLink R_Re 3 Lib.objectInit ∈ GG := gin (mt_1 (List.mem_of_getElem? (i := 63) rfl)) rfl
theorem mc_17 : Cond.fieldLink R_Re 9 R_Re "drawing" "LStockDrawer$Drawing;" ∈ GG := gin (mt_1 (List.mem_of_getElem? (i := 64) rfl)) rfl
theorem mc_18 : Cond.fieldLink R_Re 15 R_Re "out" "[Z" ∈ GG := gin (mt_1 (List.mem_of_getElem? (i := 65) rfl)) rfl
theorem mc_19 : Cond.methodLink R_St 3 Lib.objectInit ∈ GG := gin (mt_1 (List.mem_of_getElem? (i := 86) rfl)) rfl
theorem mc_20 : Cond.fieldLink R_St 9 R_St "drawing" "LStockDrawer$Drawing;" ∈ GG := gin (mt_1 (List.mem_of_getElem? (i := 87) rfl)) rfl
theorem mc_21 : Cond.fieldLink R_St 15 R_St "rest" "LStockDrawer$Rest;" ∈ GG := gin (mt_1 (List.mem_of_getElem? (i := 88) rfl)) rfl
theorem mc_22 : Cond.fieldLink R_St 19 R_St "stock" "[I" ∈ GG := gin (mt_1 (List.mem_of_getElem? (i := 89) rfl)) rfl
theorem mc_23 : Cond.fieldLink R_St 23 R_St "heaviest" "[I" ∈ GG := gin (mt_1 (List.mem_of_getElem? (i := 90) rfl)) rfl
theorem mc_24 : Cond.fieldLink R_St 26 R_St "busy" "[Z" ∈ GG := gin (mt_1 (List.mem_of_getElem? (i := 91) rfl)) rfl
theorem mc_25 : Cond.fieldLink R_St 30 R_St "found" "I" ∈ GG := gin (mt_1 (List.mem_of_getElem? (i := 92) rfl)) rfl
theorem mc_26 : Cond.methodLink R_SD 3 Lib.objectInit ∈ GG := gin (mt_1 (List.mem_of_getElem? (i := 19) rfl)) rfl
theorem mc_27 : Cond.classLink R_SD 9 R_Dr ∈ GG := gin (mt_1 (List.mem_of_getElem? (i := 22) rfl)) rfl
theorem mc_28 : Cond.instantiable R_Dr 9 ∈ GG := gin (mt_1 (List.mem_of_getElem? (i := 23) rfl)) rfl
theorem mc_29 : Cond.initialized R_Dr ∈ GG := gin (mt_1 (List.mem_of_getElem? (i := 2) rfl)) rfl
theorem mc_30 : Cond.methodLink R_SD 11 y_Dr_init ∈ GG := gin (mt_1 (List.mem_of_getElem? (i := 24) rfl)) rfl
theorem mc_31 : Cond.instanceMethod y_Dr_init ∈ GG := gin (mt_1 (List.mem_of_getElem? (i := 25) rfl)) rfl
theorem mc_32 : Cond.code y_Dr_init b_Dr_init 1 none ∈ GG := gin (mt_1 (List.mem_of_getElem? (i := 26) rfl)) rfl
theorem mc_33 : Cond.classLink R_SD 12 R_Re ∈ GG := gin (mt_1 (List.mem_of_getElem? (i := 58) rfl)) rfl
theorem mc_34 : Cond.instantiable R_Re 2 ∈ GG := gin (mt_1 (List.mem_of_getElem? (i := 59) rfl)) rfl
theorem mc_35 : Cond.initialized R_Re ∈ GG := gin (mt_1 (List.mem_of_getElem? (i := 3) rfl)) rfl
theorem mc_36 : Cond.methodLink R_SD 14 y_Re_init ∈ GG := gin (mt_1 (List.mem_of_getElem? (i := 60) rfl)) rfl
theorem mc_37 : Cond.instanceMethod y_Re_init ∈ GG := gin (mt_1 (List.mem_of_getElem? (i := 61) rfl)) rfl
theorem mc_38 : Cond.code y_Re_init b_Re_init 2 none ∈ GG := gin (mt_1 (List.mem_of_getElem? (i := 62) rfl)) rfl
theorem mc_39 : Cond.classLink R_SD 17 R_So ∈ GG := gin (mt_1 (List.mem_of_getElem? (i := 71) rfl)) rfl
theorem mc_40 : Cond.instantiable R_So 1 ∈ GG := gin (mt_1 (List.mem_of_getElem? (i := 72) rfl)) rfl
theorem mc_41 : Cond.initialized R_So ∈ GG := gin (mt_1 (List.mem_of_getElem? (i := 4) rfl)) rfl
theorem mc_42 : Cond.methodLink R_SD 19 y_So_init ∈ GG := gin (mt_1 (List.mem_of_getElem? (i := 73) rfl)) rfl
theorem mc_43 : Cond.instanceMethod y_So_init ∈ GG := gin (mt_1 (List.mem_of_getElem? (i := 74) rfl)) rfl
theorem mc_44 : Cond.code y_So_init b_So_init 3 none ∈ GG := gin (mt_1 (List.mem_of_getElem? (i := 75) rfl)) rfl
theorem mc_45 : Cond.fieldLink R_SD 22 R_SD "source" "LStockDrawer$Source;" ∈ GG := gin (mt_1 (List.mem_of_getElem? (i := 106) rfl)) rfl
theorem mc_46 : Cond.fieldLink R_SD 26 R_SD "drawing" "LStockDrawer$Drawing;" ∈ GG := gin (mt_1 (List.mem_of_getElem? (i := 107) rfl)) rfl
theorem mc_47 : Cond.fieldLink R_SD 30 R_SD "rest" "LStockDrawer$Rest;" ∈ GG := gin (mt_1 (List.mem_of_getElem? (i := 108) rfl)) rfl
theorem mc_48 : Cond.classLink R_SD 34 R_St ∈ GG := gin (mt_1 (List.mem_of_getElem? (i := 81) rfl)) rfl
theorem mc_49 : Cond.instantiable R_St 6 ∈ GG := gin (mt_1 (List.mem_of_getElem? (i := 82) rfl)) rfl
theorem mc_50 : Cond.initialized R_St ∈ GG := gin (mt_1 (List.mem_of_getElem? (i := 5) rfl)) rfl
theorem mc_51 : Cond.methodLink R_SD 36 y_St_init ∈ GG := gin (mt_1 (List.mem_of_getElem? (i := 83) rfl)) rfl
theorem mc_52 : Cond.instanceMethod y_St_init ∈ GG := gin (mt_1 (List.mem_of_getElem? (i := 84) rfl)) rfl
theorem mc_53 : Cond.code y_St_init b_St_init 3 none ∈ GG := gin (mt_1 (List.mem_of_getElem? (i := 85) rfl)) rfl
theorem mc_54 : Cond.fieldLink R_SD 39 R_SD "story" "LStockDrawer$Story;" ∈ GG := gin (mt_1 (List.mem_of_getElem? (i := 109) rfl)) rfl
theorem mc_55 : Cond.fieldLink R_SD 43 R_SD "otherSource" "LStockDrawer$Source;" ∈ GG := gin (mt_1 (List.mem_of_getElem? (i := 110) rfl)) rfl
theorem mc_56 : Cond.fieldLink R_SD 46 R_SD "otherDrawing" "LStockDrawer$Drawing;" ∈ GG := gin (mt_1 (List.mem_of_getElem? (i := 111) rfl)) rfl
theorem mc_57 : Cond.fieldLink R_SD 49 R_SD "asked" "I" ∈ GG := gin (mt_1 (List.mem_of_getElem? (i := 112) rfl)) rfl
theorem mc_58 : Cond.methodLink R_Mo 1 Lib.objectInit ∈ GG := gin (mt_3 (List.mem_of_getElem? (i := 73) rfl)) rfl
theorem mc_59 : Cond.fieldLink R_Mo 9 R_Mo "size" "I" ∈ GG := gin (mt_3 (List.mem_of_getElem? (i := 76) rfl)) rfl
theorem mc_60 : Cond.fieldLink R_Mo 13 R_Mo "out" "[Z" ∈ GG := gin (mt_3 (List.mem_of_getElem? (i := 79) rfl)) rfl
theorem mc_61 : Cond.fieldLink R_Mo 17 R_Mo "room" "[I" ∈ GG := gin (mt_3 (List.mem_of_getElem? (i := 81) rfl)) rfl
theorem mc_62 : Cond.fieldLink R_Mo 21 R_Mo "grams" "[I" ∈ GG := gin (mt_3 (List.mem_of_getElem? (i := 83) rfl)) rfl
theorem mc_63 : Cond.fieldLink R_Mo 24 R_Mo "at" "[I" ∈ GG := gin (mt_3 (List.mem_of_getElem? (i := 85) rfl)) rfl
theorem mc_64 : Cond.fieldLink R_Mo 27 R_Mo "of" "[I" ∈ GG := gin (mt_3 (List.mem_of_getElem? (i := 86) rfl)) rfl
theorem mc_65 : Cond.fieldLink R_Mo 30 R_Mo "many" "[I" ∈ GG := gin (mt_3 (List.mem_of_getElem? (i := 87) rfl)) rfl
theorem mc_66 : Cond.fieldLink R_Mo 33 R_Mo "takes" "[Z" ∈ GG := gin (mt_3 (List.mem_of_getElem? (i := 88) rfl)) rfl
theorem mc_67 : Cond.fieldLink R_Mo 36 R_Mo "lie" "[Z" ∈ GG := gin (mt_3 (List.mem_of_getElem? (i := 89) rfl)) rfl
theorem mc_68 : Cond.fieldLink R_Mo 39 R_Mo "row" "[I" ∈ GG := gin (mt_3 (List.mem_of_getElem? (i := 91) rfl)) rfl
theorem mc_69 : Cond.fieldLink R_Mo 42 R_Mo "pieces" "[I" ∈ GG := gin (mt_3 (List.mem_of_getElem? (i := 92) rfl)) rfl
theorem mc_70 : Cond.fieldLink R_Mo 45 R_Mo "most" "[I" ∈ GG := gin (mt_3 (List.mem_of_getElem? (i := 93) rfl)) rfl
theorem mc_71 : Cond.fieldLink R_Mo 48 R_Mo "state" "J" ∈ GG := gin (mt_3 (List.mem_of_getElem? (i := 75) rfl)) rfl
