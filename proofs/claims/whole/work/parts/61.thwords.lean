theorem m_204 : Cond.classLink R_SD 74 "java/lang/IllegalArgumentException" ∈ GG := gin (mt_2 (List.mem_of_getElem? (i := 75) rfl)) rfl
theorem m_205 : Cond.initialized "java/lang/IllegalArgumentException" ∈ GG := gin (mt_1 (List.mem_of_getElem? (i := 10) rfl)) rfl
theorem m_206 : Cond.methodLink R_SD 57 y_Dr_redraw ∈ GG := gin (mt_2 (List.mem_of_getElem? (i := 143) rfl)) rfl
theorem m_207 : Cond.instanceMethod y_Dr_redraw ∈ GG := gin (mt_2 (List.mem_of_getElem? (i := 144) rfl)) rfl
theorem m_208 : Cond.selects R_Dr y_Dr_redraw y_Dr_redraw ∈ GG := gin (mt_2 (List.mem_of_getElem? (i := 145) rfl)) rfl
theorem m_209 : Cond.code y_Dr_redraw b_Dr_redraw 5 none ∈ GG := gin (mt_2 (List.mem_of_getElem? (i := 146) rfl)) rfl
theorem m_210 : Cond.methodLink R_SD 53 y_SD_refuseWrongSize ∈ GG := gin (mt_2 (List.mem_of_getElem? (i := 71) rfl)) rfl
theorem m_211 : Cond.instanceMethod y_SD_refuseWrongSize ∈ GG := gin (mt_2 (List.mem_of_getElem? (i := 73) rfl)) rfl
theorem m_212 : Cond.selects R_SD y_SD_refuseWrongSize y_SD_refuseWrongSize ∈ GG := gin (mp_1 (List.mem_map.mpr ⟨(y_SD_refuseWrongSize, 7), List.mem_of_getElem? (i := 8) rfl, rfl⟩)) rfl
theorem m_213 : Cond.code y_SD_refuseWrongSize b_SD_refuseWrongSize 2 none ∈ GG := gin (mt_2 (List.mem_of_getElem? (i := 74) rfl)) rfl
theorem m_214 : Cond.classLink R_SD 139 "java/util/NoSuchElementException" ∈ GG := gin (mt_2 (List.mem_of_getElem? (i := 178) rfl)) rfl
theorem m_215 : Cond.initialized "java/util/NoSuchElementException" ∈ GG := gin (mt_1 (List.mem_of_getElem? (i := 11) rfl)) rfl
theorem m_216 : Cond.methodLink R_SD 183 y_Dr_has ∈ GG := gin (mt_2 (List.mem_of_getElem? (i := 177) rfl)) rfl
theorem m_217 : Cond.methodLink R_SD 81 y_Dr_kindOf ∈ GG := gin (mt_2 (List.mem_of_getElem? (i := 195) rfl)) rfl
theorem m_218 : Cond.methodLink R_SD 85 y_Dr_numberOf ∈ GG := gin (mt_2 (List.mem_of_getElem? (i := 196) rfl)) rfl
theorem m_219 : Cond.instanceMethod y_Dr_numberOf ∈ GG := gin (mt_2 (List.mem_of_getElem? (i := 197) rfl)) rfl
theorem m_220 : Cond.selects R_Dr y_Dr_numberOf y_Dr_numberOf ∈ GG := gin (mt_2 (List.mem_of_getElem? (i := 198) rfl)) rfl
theorem m_221 : Cond.code y_Dr_numberOf b_Dr_numberOf 2 (some .int) ∈ GG := gin (mt_2 (List.mem_of_getElem? (i := 199) rfl)) rfl
theorem m_222 : Cond.methodLink R_SD 88 y_Dr_amountOf ∈ GG := gin (mt_2 (List.mem_of_getElem? (i := 201) rfl)) rfl
theorem m_223 : Cond.methodLink R_SD 91 y_Dr_placeOf ∈ GG := gin (mt_2 (List.mem_of_getElem? (i := 202) rfl)) rfl
theorem m_224 : Cond.methodLink R_SD 94 y_Dr_goodOf ∈ GG := gin (mt_2 (List.mem_of_getElem? (i := 203) rfl)) rfl
theorem m_225 : Cond.methodLink R_SD 97 y_Dr_takes ∈ GG := gin (mt_2 (List.mem_of_getElem? (i := 204) rfl)) rfl
theorem m_226 : Cond.methodLink R_SD 101 y_Dr_lies ∈ GG := gin (mt_2 (List.mem_of_getElem? (i := 205) rfl)) rfl
theorem m_227 : Cond.methodLink R_SD 71 y_SD_refuseMissingPart ∈ GG := gin (mt_2 (List.mem_of_getElem? (i := 173) rfl)) rfl
theorem m_228 : Cond.instanceMethod y_SD_refuseMissingPart ∈ GG := gin (mt_2 (List.mem_of_getElem? (i := 175) rfl)) rfl
theorem m_229 : Cond.selects R_SD y_SD_refuseMissingPart y_SD_refuseMissingPart ∈ GG := gin (mp_1 (List.mem_map.mpr ⟨(y_SD_refuseMissingPart, 7), List.mem_of_getElem? (i := 13) rfl, rfl⟩)) rfl
theorem m_230 : Cond.code y_SD_refuseMissingPart b_SD_refuseMissingPart 2 none ∈ GG := gin (mt_2 (List.mem_of_getElem? (i := 176) rfl)) rfl
theorem m_231 : Cond.classLink R_SD 107 "java/lang/IllegalStateException" ∈ GG := gin (mt_2 (List.mem_of_getElem? (i := 214) rfl)) rfl
theorem m_232 : Cond.initialized "java/lang/IllegalStateException" ∈ GG := gin (mt_1 (List.mem_of_getElem? (i := 12) rfl)) rfl
theorem m_233 : Cond.methodLink R_SD 127 y_SD_leaveOutInOneRound ∈ GG := gin (mt_3 (List.mem_of_getElem? (i := 6) rfl)) rfl
theorem m_234 : Cond.instanceMethod y_SD_leaveOutInOneRound ∈ GG := gin (mt_3 (List.mem_of_getElem? (i := 8) rfl)) rfl
theorem m_235 : Cond.selects R_SD y_SD_leaveOutInOneRound y_SD_leaveOutInOneRound ∈ GG := gin (mp_1 (List.mem_map.mpr ⟨(y_SD_leaveOutInOneRound, 7), List.mem_of_getElem? (i := 14) rfl, rfl⟩)) rfl
theorem m_236 : Cond.code y_SD_leaveOutInOneRound b_SD_leaveOutInOneRound 4 (some .boolean) ∈ GG := gin (mt_3 (List.mem_of_getElem? (i := 9) rfl)) rfl
theorem m_237 : Cond.methodLink R_SD 136 y_Re_partLeftAt ∈ GG := gin (mt_3 (List.mem_of_getElem? (i := 17) rfl)) rfl
theorem m_238 : Cond.instanceMethod y_Re_partLeftAt ∈ GG := gin (mt_3 (List.mem_of_getElem? (i := 18) rfl)) rfl
theorem m_239 : Cond.selects R_Re y_Re_partLeftAt y_Re_partLeftAt ∈ GG := gin (mt_3 (List.mem_of_getElem? (i := 19) rfl)) rfl
theorem m_240 : Cond.code y_Re_partLeftAt b_Re_partLeftAt 4 (some .int) ∈ GG := gin (mt_3 (List.mem_of_getElem? (i := 20) rfl)) rfl
theorem m_241 : Cond.methodLink R_SD 188 y_Dr_hasPlace ∈ GG := gin (mt_3 (List.mem_of_getElem? (i := 33) rfl)) rfl
theorem m_242 : Cond.methodLink R_SD 152 y_St_stockAt ∈ GG := gin (mt_3 (List.mem_of_getElem? (i := 37) rfl)) rfl
theorem m_243 : Cond.methodLink R_SD 147 y_Dr_hasGood ∈ GG := gin (mt_3 (List.mem_of_getElem? (i := 35) rfl)) rfl
theorem m_244 : Cond.methodLink R_SD 144 y_SD_refuseMissingPlace ∈ GG := gin (mt_3 (List.mem_of_getElem? (i := 29) rfl)) rfl
theorem m_245 : Cond.instanceMethod y_SD_refuseMissingPlace ∈ GG := gin (mt_3 (List.mem_of_getElem? (i := 31) rfl)) rfl
theorem m_246 : Cond.selects R_SD y_SD_refuseMissingPlace y_SD_refuseMissingPlace ∈ GG := gin (mp_1 (List.mem_map.mpr ⟨(y_SD_refuseMissingPlace, 7), List.mem_of_getElem? (i := 15) rfl, rfl⟩)) rfl
theorem m_247 : Cond.code y_SD_refuseMissingPlace b_SD_refuseMissingPlace 2 none ∈ GG := gin (mt_3 (List.mem_of_getElem? (i := 32) rfl)) rfl
theorem m_248 : Cond.methodLink R_SD 156 y_St_heaviestAt ∈ GG := gin (mt_3 (List.mem_of_getElem? (i := 45) rfl)) rfl
theorem m_249 : Cond.instanceMethod y_St_heaviestAt ∈ GG := gin (mt_3 (List.mem_of_getElem? (i := 46) rfl)) rfl
theorem m_250 : Cond.selects R_St y_St_heaviestAt y_St_heaviestAt ∈ GG := gin (mt_3 (List.mem_of_getElem? (i := 47) rfl)) rfl
theorem m_251 : Cond.code y_St_heaviestAt b_St_heaviestAt 2 (some .int) ∈ GG := gin (mt_3 (List.mem_of_getElem? (i := 48) rfl)) rfl
theorem m_252 : Cond.fieldLink R_SD 43 R_SD "otherSource" "LStockDrawer$Source;" ∈ GG := gin (mt_1 (List.mem_of_getElem? (i := 110) rfl)) rfl
theorem m_253 : Cond.fieldLink R_SD 46 R_SD "otherDrawing" "LStockDrawer$Drawing;" ∈ GG := gin (mt_1 (List.mem_of_getElem? (i := 111) rfl)) rfl
theorem m_254 : Cond.methodLink R_SD 159 y_Dr_hasThePartsOf ∈ GG := gin (mt_3 (List.mem_of_getElem? (i := 56) rfl)) rfl
theorem m_255 : Cond.instanceMethod y_Dr_hasThePartsOf ∈ GG := gin (mt_3 (List.mem_of_getElem? (i := 57) rfl)) rfl
theorem m_256 : Cond.selects R_Dr y_Dr_hasThePartsOf y_Dr_hasThePartsOf ∈ GG := gin (mt_3 (List.mem_of_getElem? (i := 58) rfl)) rfl
theorem m_257 : Cond.code y_Dr_hasThePartsOf b_Dr_hasThePartsOf 3 (some .boolean) ∈ GG := gin (mt_3 (List.mem_of_getElem? (i := 59) rfl)) rfl
theorem m_258 : Cond.methodLink R_La 7 y_SD_draw ∈ GG := gin (mt_2 (List.mem_of_getElem? (i := 67) rfl)) rfl
theorem m_259 : Cond.instanceMethod y_SD_draw ∈ GG := gin (mt_2 (List.mem_of_getElem? (i := 68) rfl)) rfl
theorem m_260 : Cond.selects R_SD y_SD_draw y_SD_draw ∈ GG := gin (mt_2 (List.mem_of_getElem? (i := 69) rfl)) rfl
theorem m_261 : Cond.code y_SD_draw b_SD_draw 2 (some .int) ∈ GG := gin (mt_2 (List.mem_of_getElem? (i := 70) rfl)) rfl
theorem m_262 : Cond.classLink R_La 13 "java/lang/IllegalArgumentException" ∈ GG := gin (mt_2 (List.mem_of_getElem? (i := 66) rfl)) rfl
theorem m_263 : Cond.methodLink R_La 15 y_SD_part ∈ GG := gin (mt_2 (List.mem_of_getElem? (i := 169) rfl)) rfl
theorem m_264 : Cond.instanceMethod y_SD_part ∈ GG := gin (mt_2 (List.mem_of_getElem? (i := 170) rfl)) rfl
theorem m_265 : Cond.selects R_SD y_SD_part y_SD_part ∈ GG := gin (mt_2 (List.mem_of_getElem? (i := 171) rfl)) rfl
theorem m_266 : Cond.code y_SD_part b_SD_part 3 (some .int) ∈ GG := gin (mt_2 (List.mem_of_getElem? (i := 172) rfl)) rfl
theorem m_267 : Cond.classLink R_La 19 "java/util/NoSuchElementException" ∈ GG := gin (mt_2 (List.mem_of_getElem? (i := 168) rfl)) rfl
theorem m_268 : Cond.methodLink R_La 21 y_SD_leave ∈ GG := gin (mt_2 (List.mem_of_getElem? (i := 210) rfl)) rfl
theorem m_269 : Cond.instanceMethod y_SD_leave ∈ GG := gin (mt_2 (List.mem_of_getElem? (i := 211) rfl)) rfl
theorem m_270 : Cond.selects R_SD y_SD_leave y_SD_leave ∈ GG := gin (mt_2 (List.mem_of_getElem? (i := 212) rfl)) rfl
theorem m_271 : Cond.code y_SD_leave b_SD_leave 3 (some .boolean) ∈ GG := gin (mt_2 (List.mem_of_getElem? (i := 213) rfl)) rfl
theorem m_272 : Cond.classLink R_La 25 "java/lang/IllegalStateException" ∈ GG := gin (mt_2 (List.mem_of_getElem? (i := 209) rfl)) rfl
theorem m_273 : Cond.methodLink R_La 27 y_SD_verdict ∈ GG := gin (mt_2 (List.mem_of_getElem? (i := 233) rfl)) rfl
theorem m_274 : Cond.instanceMethod y_SD_verdict ∈ GG := gin (mt_2 (List.mem_of_getElem? (i := 234) rfl)) rfl
theorem m_275 : Cond.selects R_SD y_SD_verdict y_SD_verdict ∈ GG := gin (mt_2 (List.mem_of_getElem? (i := 235) rfl)) rfl
theorem m_276 : Cond.code y_SD_verdict b_SD_verdict 2 (some .boolean) ∈ GG := gin (mt_2 (List.mem_of_getElem? (i := 236) rfl)) rfl
theorem m_277 : Cond.methodLink R_La 31 y_SD_shorter ∈ GG := gin (mt_3 (List.mem_of_getElem? (i := 1) rfl)) rfl
theorem m_278 : Cond.instanceMethod y_SD_shorter ∈ GG := gin (mt_3 (List.mem_of_getElem? (i := 2) rfl)) rfl
theorem m_279 : Cond.selects R_SD y_SD_shorter y_SD_shorter ∈ GG := gin (mt_3 (List.mem_of_getElem? (i := 3) rfl)) rfl
theorem m_280 : Cond.code y_SD_shorter b_SD_shorter 3 (some .int) ∈ GG := gin (mt_3 (List.mem_of_getElem? (i := 4) rfl)) rfl
theorem m_281 : Cond.methodLink R_La 35 y_SD_left ∈ GG := gin (mt_3 (List.mem_of_getElem? (i := 13) rfl)) rfl
theorem m_282 : Cond.instanceMethod y_SD_left ∈ GG := gin (mt_3 (List.mem_of_getElem? (i := 14) rfl)) rfl
theorem m_283 : Cond.selects R_SD y_SD_left y_SD_left ∈ GG := gin (mt_3 (List.mem_of_getElem? (i := 15) rfl)) rfl
theorem m_284 : Cond.code y_SD_left b_SD_left 3 (some .int) ∈ GG := gin (mt_3 (List.mem_of_getElem? (i := 16) rfl)) rfl
theorem m_285 : Cond.methodLink R_La 38 y_SD_pieces ∈ GG := gin (mt_3 (List.mem_of_getElem? (i := 25) rfl)) rfl
theorem m_286 : Cond.instanceMethod y_SD_pieces ∈ GG := gin (mt_3 (List.mem_of_getElem? (i := 26) rfl)) rfl
theorem m_287 : Cond.selects R_SD y_SD_pieces y_SD_pieces ∈ GG := gin (mt_3 (List.mem_of_getElem? (i := 27) rfl)) rfl
theorem m_288 : Cond.code y_SD_pieces b_SD_pieces 3 (some .int) ∈ GG := gin (mt_3 (List.mem_of_getElem? (i := 28) rfl)) rfl
theorem m_289 : Cond.methodLink R_La 41 y_SD_most ∈ GG := gin (mt_3 (List.mem_of_getElem? (i := 41) rfl)) rfl
theorem m_290 : Cond.instanceMethod y_SD_most ∈ GG := gin (mt_3 (List.mem_of_getElem? (i := 42) rfl)) rfl
theorem m_291 : Cond.selects R_SD y_SD_most y_SD_most ∈ GG := gin (mt_3 (List.mem_of_getElem? (i := 43) rfl)) rfl
theorem m_292 : Cond.code y_SD_most b_SD_most 2 (some .int) ∈ GG := gin (mt_3 (List.mem_of_getElem? (i := 44) rfl)) rfl
theorem m_293 : Cond.methodLink R_La 44 y_SD_same ∈ GG := gin (mt_3 (List.mem_of_getElem? (i := 52) rfl)) rfl
theorem m_294 : Cond.instanceMethod y_SD_same ∈ GG := gin (mt_3 (List.mem_of_getElem? (i := 53) rfl)) rfl
theorem m_295 : Cond.selects R_SD y_SD_same y_SD_same ∈ GG := gin (mt_3 (List.mem_of_getElem? (i := 54) rfl)) rfl
theorem m_296 : Cond.code y_SD_same b_SD_same 4 (some .boolean) ∈ GG := gin (mt_3 (List.mem_of_getElem? (i := 55) rfl)) rfl
theorem ms_0 : Cond.stringRef R_SD 181 "a size is 0 to 5" ∈ lw_tbl := mt_2 (List.mem_of_getElem? (i := 116) rfl)
theorem ms_1 : Cond.stringRef R_SD 186 "the drawing has no such part" ∈ lw_tbl := mt_2 (List.mem_of_getElem? (i := 187) rfl)
theorem ms_2 : Cond.stringRef R_SD 76 "a part is asked for 0 to 7" ∈ lw_tbl := mt_2 (List.mem_of_getElem? (i := 194) rfl)
theorem ms_3 : Cond.stringRef R_SD 109 "the part is so already" ∈ lw_tbl := mt_2 (List.mem_of_getElem? (i := 223) rfl)
theorem ms_4 : Cond.stringRef R_SD 123 "a verdict is 0 to 63" ∈ lw_tbl := mt_2 (List.mem_of_getElem? (i := 237) rfl)
theorem ms_5 : Cond.stringRef R_SD 125 "the verdict does not hold" ∈ lw_tbl := mt_3 (List.mem_of_getElem? (i := 5) rfl)
theorem ms_6 : Cond.stringRef R_SD 141 "there are not so many parts left" ∈ lw_tbl := mt_3 (List.mem_of_getElem? (i := 21) rfl)
theorem ms_7 : Cond.stringRef R_SD 191 "the drawing has no such place" ∈ lw_tbl := mt_3 (List.mem_of_getElem? (i := 34) rfl)
theorem ms_8 : Cond.stringRef R_SD 150 "the drawing has no such good" ∈ lw_tbl := mt_3 (List.mem_of_getElem? (i := 36) rfl)
theorem ow_0 : ∀ w ∈ Bundle.ownAtoms R_SD 78 "java/lang/IllegalArgumentException" nmX, w ∈ GG ∨ w ∈ thW ∨ w ∈ thH := by decide +kernel
theorem ow_1 : ∀ w ∈ thC R_SD 143 "java/util/NoSuchElementException" "java/lang/RuntimeException" nmY 13 bsY, w ∈ GG ∨ w ∈ thW ∨ w ∈ thH := by decide +kernel
theorem ow_2 : ∀ w ∈ Bundle.ownAtoms R_SD 111 "java/lang/IllegalStateException" nmX, w ∈ GG ∨ w ∈ thW ∨ w ∈ thH := by decide +kernel
