abbrev LSt : Type := Int32 × Int32 × Int64 × DD × (Nat → Int32) × TT × Int64 × DD × (Nat → Int64) × Int32 × Int64 × Int32 × Int32 × (Nat → Int32) × MD × MR × MP
theorem lw_cm {ad am : Nat → Nat} {cI cZ : ClassId} {w0 : Nat × va_E} {x : Int32} {s : Int64} {d : DD} {o : (Nat → Int32)} {t : TT} {s2 : Int64} {d2 : DD} {mk : Int32} {mu : Int64} {mz : Int32} {mw : Int32} {mo : (Nat → Int32)} {md : MD} {mr : MR} {mp : MP} : (WC ad cI cZ x s d o t s2 d2 (w0 :: WM am cI cZ mk mu mz mw mo md mr mp [])).Perm (WM am cI cZ mk mu mz mw mo md mr mp (WC ad cI cZ x s d o t s2 d2 [w0])) := List.perm_append_comm (l₁ := WC ad cI cZ x s d o t s2 d2 [w0]) (l₂ := WM am cI cZ mk mu mz mw mo md mr mp [])
theorem lw_mc {ad am : Nat → Nat} {cI cZ : ClassId} {w0 : Nat × va_E} {x : Int32} {s : Int64} {d : DD} {o : (Nat → Int32)} {t : TT} {s2 : Int64} {d2 : DD} {mk : Int32} {mu : Int64} {mz : Int32} {mw : Int32} {mo : (Nat → Int32)} {md : MD} {mr : MR} {mp : MP} : (WM am cI cZ mk mu mz mw mo md mr mp (WC ad cI cZ x s d o t s2 d2 [w0])).Perm (WC ad cI cZ x s d o t s2 d2 (w0 :: WM am cI cZ mk mu mz mw mo md mr mp [])) := lw_cm.symm
abbrev b_La_law : ByteArray := code
theorem d_La_law_0 : decode b_La_law 0 = .ok (.new 8, 3) := by decide +kernel
theorem d_La_law_3 : decode b_La_law 3 = .ok (.dup, 1) := by decide +kernel
theorem d_La_law_4 : decode b_La_law 4 = .ok (.aload_n 0, 1) := by decide +kernel
theorem d_La_law_5 : decode b_La_law 5 = .ok (.iconst 0, 1) := by decide +kernel
theorem d_La_law_6 : decode b_La_law 6 = .ok (.invokestatic 48, 3) := by decide +kernel
theorem d_La_law_9 : decode b_La_law 9 = .ok (.invokespecial 54, 3) := by decide +kernel
theorem d_La_law_12 : decode b_La_law 12 = .ok (.astore_n 1, 1) := by decide +kernel
theorem d_La_law_13 : decode b_La_law 13 = .ok (.new 57, 3) := by decide +kernel
theorem d_La_law_16 : decode b_La_law 16 = .ok (.dup, 1) := by decide +kernel
theorem d_La_law_17 : decode b_La_law 17 = .ok (.aload_n 0, 1) := by decide +kernel
theorem d_La_law_18 : decode b_La_law 18 = .ok (.iconst 0, 1) := by decide +kernel
theorem d_La_law_19 : decode b_La_law 19 = .ok (.invokestatic 48, 3) := by decide +kernel
theorem d_La_law_22 : decode b_La_law 22 = .ok (.invokespecial 59, 3) := by decide +kernel
theorem d_La_law_25 : decode b_La_law 25 = .ok (.astore_n 2, 1) := by decide +kernel
theorem d_La_law_26 : decode b_La_law 26 = .ok (.iconst 1, 1) := by decide +kernel
theorem d_La_law_27 : decode b_La_law 27 = .ok (.newarray .long, 2) := by decide +kernel
theorem d_La_law_29 : decode b_La_law 29 = .ok (.astore_n 3, 1) := by decide +kernel
theorem d_La_law_30 : decode b_La_law 30 = .ok (.iconst 1, 1) := by decide +kernel
theorem d_La_law_31 : decode b_La_law 31 = .ok (.istore 4, 2) := by decide +kernel
theorem d_La_law_33 : decode b_La_law 33 = .ok (.iload 4, 2) := by decide +kernel
theorem d_La_law_35 : decode b_La_law 35 = .ok (.aload_n 0, 1) := by decide +kernel
theorem d_La_law_36 : decode b_La_law 36 = .ok (.arraylength, 1) := by decide +kernel
theorem d_La_law_37 : decode b_La_law 37 = .ok (.iconst 4, 1) := by decide +kernel
theorem d_La_law_38 : decode b_La_law 38 = .ok (.isub, 1) := by decide +kernel
theorem d_La_law_39 : decode b_La_law 39 = .ok (.if_icmp .gt 832, 3) := by decide +kernel
theorem d_La_law_42 : decode b_La_law 42 = .ok (.aload_n 0, 1) := by decide +kernel
theorem d_La_law_43 : decode b_La_law 43 = .ok (.iload 4, 2) := by decide +kernel
theorem d_La_law_45 : decode b_La_law 45 = .ok (.iaload, 1) := by decide +kernel
theorem d_La_law_46 : decode b_La_law 46 = .ok (.bipush 15, 2) := by decide +kernel
theorem d_La_law_48 : decode b_La_law 48 = .ok (.iand, 1) := by decide +kernel
theorem d_La_law_49 : decode b_La_law 49 = .ok (.tableswitch 816 0 14 #[75, 131, 186, 254, 345, 358, 421, 434, 478, 491, 547, 560, 628, 684, 791], 75) := by decide +kernel
theorem d_La_law_124 : decode b_La_law 124 = .ok (.aload_n 1, 1) := by decide +kernel
theorem d_La_law_125 : decode b_La_law 125 = .ok (.aload_n 0, 1) := by decide +kernel
theorem d_La_law_126 : decode b_La_law 126 = .ok (.iload 4, 2) := by decide +kernel
theorem d_La_law_128 : decode b_La_law 128 = .ok (.iconst 1, 1) := by decide +kernel
theorem d_La_law_129 : decode b_La_law 129 = .ok (.iadd, 1) := by decide +kernel
theorem d_La_law_130 : decode b_La_law 130 = .ok (.iaload, 1) := by decide +kernel
theorem d_La_law_131 : decode b_La_law 131 = .ok (.aload_n 3, 1) := by decide +kernel
theorem d_La_law_132 : decode b_La_law 132 = .ok (.invokestatic 60, 3) := by decide +kernel
theorem d_La_law_135 : decode b_La_law 135 = .ok (.istore 5, 2) := by decide +kernel
theorem d_La_law_137 : decode b_La_law 137 = .ok (.aload_n 2, 1) := by decide +kernel
theorem d_La_law_138 : decode b_La_law 138 = .ok (.aload_n 0, 1) := by decide +kernel
theorem d_La_law_139 : decode b_La_law 139 = .ok (.iload 4, 2) := by decide +kernel
theorem d_La_law_141 : decode b_La_law 141 = .ok (.iconst 1, 1) := by decide +kernel
theorem d_La_law_142 : decode b_La_law 142 = .ok (.iadd, 1) := by decide +kernel
theorem d_La_law_143 : decode b_La_law 143 = .ok (.iaload, 1) := by decide +kernel
theorem d_La_law_144 : decode b_La_law 144 = .ok (.invokevirtual 63, 3) := by decide +kernel
theorem d_La_law_147 : decode b_La_law 147 = .ok (.istore 6, 2) := by decide +kernel
theorem d_La_law_149 : decode b_La_law 149 = .ok (.aload_n 2, 1) := by decide +kernel
theorem d_La_law_150 : decode b_La_law 150 = .ok (.invokevirtual 64, 3) := by decide +kernel
theorem d_La_law_153 : decode b_La_law 153 = .ok (.iload 5, 2) := by decide +kernel
theorem d_La_law_155 : decode b_La_law 155 = .ok (.if_icmp .eq 5, 3) := by decide +kernel
theorem d_La_law_158 : decode b_La_law 158 = .ok (.iconst 0, 1) := by decide +kernel
theorem d_La_law_159 : decode b_La_law 159 = .ok (.ireturn, 1) := by decide +kernel
theorem d_La_law_160 : decode b_La_law 160 = .ok (.iload 5, 2) := by decide +kernel
theorem d_La_law_162 : decode b_La_law 162 = .ok (.ifCond .ne 15, 3) := by decide +kernel
theorem d_La_law_165 : decode b_La_law 165 = .ok (.aload_n 3, 1) := by decide +kernel
theorem d_La_law_166 : decode b_La_law 166 = .ok (.iconst 0, 1) := by decide +kernel
theorem d_La_law_167 : decode b_La_law 167 = .ok (.laload, 1) := by decide +kernel
theorem d_La_law_168 : decode b_La_law 168 = .ok (.iload 6, 2) := by decide +kernel
theorem d_La_law_170 : decode b_La_law 170 = .ok (.i2l, 1) := by decide +kernel
theorem d_La_law_171 : decode b_La_law 171 = .ok (.lcmp, 1) := by decide +kernel
theorem d_La_law_172 : decode b_La_law 172 = .ok (.ifCond .eq 5, 3) := by decide +kernel
theorem d_La_law_175 : decode b_La_law 175 = .ok (.iconst 0, 1) := by decide +kernel
theorem d_La_law_176 : decode b_La_law 176 = .ok (.ireturn, 1) := by decide +kernel
theorem d_La_law_177 : decode b_La_law 177 = .ok (.goto 688, 3) := by decide +kernel
theorem d_La_law_180 : decode b_La_law 180 = .ok (.aload_n 1, 1) := by decide +kernel
theorem d_La_law_181 : decode b_La_law 181 = .ok (.aload_n 0, 1) := by decide +kernel
theorem d_La_law_182 : decode b_La_law 182 = .ok (.iload 4, 2) := by decide +kernel
theorem d_La_law_184 : decode b_La_law 184 = .ok (.iconst 1, 1) := by decide +kernel
theorem d_La_law_185 : decode b_La_law 185 = .ok (.iadd, 1) := by decide +kernel
theorem d_La_law_186 : decode b_La_law 186 = .ok (.iaload, 1) := by decide +kernel
theorem d_La_law_187 : decode b_La_law 187 = .ok (.i2l, 1) := by decide +kernel
theorem d_La_law_188 : decode b_La_law 188 = .ok (.bipush 32, 2) := by decide +kernel
theorem d_La_law_190 : decode b_La_law 190 = .ok (.lshl, 1) := by decide +kernel
theorem d_La_law_191 : decode b_La_law 191 = .ok (.aload_n 0, 1) := by decide +kernel
theorem d_La_law_192 : decode b_La_law 192 = .ok (.iload 4, 2) := by decide +kernel
theorem d_La_law_194 : decode b_La_law 194 = .ok (.iconst 2, 1) := by decide +kernel
theorem d_La_law_195 : decode b_La_law 195 = .ok (.iadd, 1) := by decide +kernel
theorem d_La_law_196 : decode b_La_law 196 = .ok (.iaload, 1) := by decide +kernel
theorem d_La_law_197 : decode b_La_law 197 = .ok (.i2l, 1) := by decide +kernel
theorem d_La_law_198 : decode b_La_law 198 = .ok (.ldc2_w 67, 3) := by decide +kernel
theorem d_La_law_201 : decode b_La_law 201 = .ok (.land, 1) := by decide +kernel
theorem d_La_law_202 : decode b_La_law 202 = .ok (.lor, 1) := by decide +kernel
theorem d_La_law_203 : decode b_La_law 203 = .ok (.invokevirtual 69, 3) := by decide +kernel
theorem d_La_law_206 : decode b_La_law 206 = .ok (.aload_n 2, 1) := by decide +kernel
theorem d_La_law_207 : decode b_La_law 207 = .ok (.aload_n 0, 1) := by decide +kernel
theorem d_La_law_208 : decode b_La_law 208 = .ok (.iload 4, 2) := by decide +kernel
theorem d_La_law_210 : decode b_La_law 210 = .ok (.iconst 1, 1) := by decide +kernel
theorem d_La_law_211 : decode b_La_law 211 = .ok (.iadd, 1) := by decide +kernel
theorem d_La_law_212 : decode b_La_law 212 = .ok (.iaload, 1) := by decide +kernel
theorem d_La_law_213 : decode b_La_law 213 = .ok (.i2l, 1) := by decide +kernel
theorem d_La_law_214 : decode b_La_law 214 = .ok (.bipush 32, 2) := by decide +kernel
theorem d_La_law_216 : decode b_La_law 216 = .ok (.lshl, 1) := by decide +kernel
theorem d_La_law_217 : decode b_La_law 217 = .ok (.aload_n 0, 1) := by decide +kernel
theorem d_La_law_218 : decode b_La_law 218 = .ok (.iload 4, 2) := by decide +kernel
theorem d_La_law_220 : decode b_La_law 220 = .ok (.iconst 2, 1) := by decide +kernel
theorem d_La_law_221 : decode b_La_law 221 = .ok (.iadd, 1) := by decide +kernel
theorem d_La_law_222 : decode b_La_law 222 = .ok (.iaload, 1) := by decide +kernel
theorem d_La_law_223 : decode b_La_law 223 = .ok (.i2l, 1) := by decide +kernel
theorem d_La_law_224 : decode b_La_law 224 = .ok (.ldc2_w 67, 3) := by decide +kernel
theorem d_La_law_227 : decode b_La_law 227 = .ok (.land, 1) := by decide +kernel
theorem d_La_law_228 : decode b_La_law 228 = .ok (.lor, 1) := by decide +kernel
theorem d_La_law_229 : decode b_La_law 229 = .ok (.invokevirtual 73, 3) := by decide +kernel
theorem d_La_law_232 : decode b_La_law 232 = .ok (.goto 633, 3) := by decide +kernel
theorem d_La_law_235 : decode b_La_law 235 = .ok (.aload_n 1, 1) := by decide +kernel
theorem d_La_law_236 : decode b_La_law 236 = .ok (.aload_n 0, 1) := by decide +kernel
theorem d_La_law_237 : decode b_La_law 237 = .ok (.iload 4, 2) := by decide +kernel
theorem d_La_law_239 : decode b_La_law 239 = .ok (.iconst 1, 1) := by decide +kernel
theorem d_La_law_240 : decode b_La_law 240 = .ok (.iadd, 1) := by decide +kernel
theorem d_La_law_241 : decode b_La_law 241 = .ok (.iaload, 1) := by decide +kernel
theorem d_La_law_242 : decode b_La_law 242 = .ok (.aload_n 0, 1) := by decide +kernel
theorem d_La_law_243 : decode b_La_law 243 = .ok (.iload 4, 2) := by decide +kernel
theorem d_La_law_245 : decode b_La_law 245 = .ok (.iconst 2, 1) := by decide +kernel
theorem d_La_law_246 : decode b_La_law 246 = .ok (.iadd, 1) := by decide +kernel
theorem d_La_law_247 : decode b_La_law 247 = .ok (.iaload, 1) := by decide +kernel
theorem d_La_law_248 : decode b_La_law 248 = .ok (.aload_n 3, 1) := by decide +kernel
theorem d_La_law_249 : decode b_La_law 249 = .ok (.invokestatic 74, 3) := by decide +kernel
theorem d_La_law_252 : decode b_La_law 252 = .ok (.istore 5, 2) := by decide +kernel
theorem d_La_law_254 : decode b_La_law 254 = .ok (.aload_n 2, 1) := by decide +kernel
theorem d_La_law_255 : decode b_La_law 255 = .ok (.aload_n 0, 1) := by decide +kernel
theorem d_La_law_256 : decode b_La_law 256 = .ok (.iload 4, 2) := by decide +kernel
theorem d_La_law_258 : decode b_La_law 258 = .ok (.iconst 1, 1) := by decide +kernel
theorem d_La_law_259 : decode b_La_law 259 = .ok (.iadd, 1) := by decide +kernel
theorem d_La_law_260 : decode b_La_law 260 = .ok (.iaload, 1) := by decide +kernel
theorem d_La_law_261 : decode b_La_law 261 = .ok (.aload_n 0, 1) := by decide +kernel
theorem d_La_law_262 : decode b_La_law 262 = .ok (.iload 4, 2) := by decide +kernel
theorem d_La_law_264 : decode b_La_law 264 = .ok (.iconst 2, 1) := by decide +kernel
theorem d_La_law_265 : decode b_La_law 265 = .ok (.iadd, 1) := by decide +kernel
theorem d_La_law_266 : decode b_La_law 266 = .ok (.iaload, 1) := by decide +kernel
theorem d_La_law_267 : decode b_La_law 267 = .ok (.invokevirtual 77, 3) := by decide +kernel
theorem d_La_law_270 : decode b_La_law 270 = .ok (.istore 6, 2) := by decide +kernel
theorem d_La_law_272 : decode b_La_law 272 = .ok (.aload_n 2, 1) := by decide +kernel
theorem d_La_law_273 : decode b_La_law 273 = .ok (.invokevirtual 64, 3) := by decide +kernel
theorem d_La_law_276 : decode b_La_law 276 = .ok (.iload 5, 2) := by decide +kernel
theorem d_La_law_278 : decode b_La_law 278 = .ok (.if_icmp .eq 5, 3) := by decide +kernel
theorem d_La_law_281 : decode b_La_law 281 = .ok (.iconst 0, 1) := by decide +kernel
theorem d_La_law_282 : decode b_La_law 282 = .ok (.ireturn, 1) := by decide +kernel
theorem d_La_law_283 : decode b_La_law 283 = .ok (.iload 5, 2) := by decide +kernel
theorem d_La_law_285 : decode b_La_law 285 = .ok (.ifCond .ne 15, 3) := by decide +kernel
theorem d_La_law_288 : decode b_La_law 288 = .ok (.aload_n 3, 1) := by decide +kernel
theorem d_La_law_289 : decode b_La_law 289 = .ok (.iconst 0, 1) := by decide +kernel
theorem d_La_law_290 : decode b_La_law 290 = .ok (.laload, 1) := by decide +kernel
theorem d_La_law_291 : decode b_La_law 291 = .ok (.iload 6, 2) := by decide +kernel
theorem d_La_law_293 : decode b_La_law 293 = .ok (.i2l, 1) := by decide +kernel
theorem d_La_law_294 : decode b_La_law 294 = .ok (.lcmp, 1) := by decide +kernel
theorem d_La_law_295 : decode b_La_law 295 = .ok (.ifCond .eq 5, 3) := by decide +kernel
theorem d_La_law_298 : decode b_La_law 298 = .ok (.iconst 0, 1) := by decide +kernel
theorem d_La_law_299 : decode b_La_law 299 = .ok (.ireturn, 1) := by decide +kernel
theorem d_La_law_300 : decode b_La_law 300 = .ok (.goto 565, 3) := by decide +kernel
theorem d_La_law_303 : decode b_La_law 303 = .ok (.aload_n 1, 1) := by decide +kernel
theorem d_La_law_304 : decode b_La_law 304 = .ok (.aload_n 0, 1) := by decide +kernel
theorem d_La_law_305 : decode b_La_law 305 = .ok (.iload 4, 2) := by decide +kernel
theorem d_La_law_307 : decode b_La_law 307 = .ok (.iconst 1, 1) := by decide +kernel
theorem d_La_law_308 : decode b_La_law 308 = .ok (.iadd, 1) := by decide +kernel
theorem d_La_law_309 : decode b_La_law 309 = .ok (.iaload, 1) := by decide +kernel
theorem d_La_law_310 : decode b_La_law 310 = .ok (.aload_n 0, 1) := by decide +kernel
theorem d_La_law_311 : decode b_La_law 311 = .ok (.iload 4, 2) := by decide +kernel
theorem d_La_law_313 : decode b_La_law 313 = .ok (.iconst 2, 1) := by decide +kernel
theorem d_La_law_314 : decode b_La_law 314 = .ok (.iadd, 1) := by decide +kernel
theorem d_La_law_315 : decode b_La_law 315 = .ok (.iaload, 1) := by decide +kernel
theorem d_La_law_316 : decode b_La_law 316 = .ok (.ifCond .eq 7, 3) := by decide +kernel
theorem d_La_law_319 : decode b_La_law 319 = .ok (.iconst 1, 1) := by decide +kernel
theorem d_La_law_320 : decode b_La_law 320 = .ok (.goto 4, 3) := by decide +kernel
theorem d_La_law_323 : decode b_La_law 323 = .ok (.iconst 0, 1) := by decide +kernel
theorem d_La_law_324 : decode b_La_law 324 = .ok (.aload_n 3, 1) := by decide +kernel
theorem d_La_law_325 : decode b_La_law 325 = .ok (.invokestatic 78, 3) := by decide +kernel
theorem d_La_law_328 : decode b_La_law 328 = .ok (.istore 5, 2) := by decide +kernel
theorem d_La_law_330 : decode b_La_law 330 = .ok (.aload_n 2, 1) := by decide +kernel
theorem d_La_law_331 : decode b_La_law 331 = .ok (.aload_n 0, 1) := by decide +kernel
theorem d_La_law_332 : decode b_La_law 332 = .ok (.iload 4, 2) := by decide +kernel
theorem d_La_law_334 : decode b_La_law 334 = .ok (.iconst 1, 1) := by decide +kernel
theorem d_La_law_335 : decode b_La_law 335 = .ok (.iadd, 1) := by decide +kernel
theorem d_La_law_336 : decode b_La_law 336 = .ok (.iaload, 1) := by decide +kernel
theorem d_La_law_337 : decode b_La_law 337 = .ok (.aload_n 0, 1) := by decide +kernel
theorem d_La_law_338 : decode b_La_law 338 = .ok (.iload 4, 2) := by decide +kernel
theorem d_La_law_340 : decode b_La_law 340 = .ok (.iconst 2, 1) := by decide +kernel
theorem d_La_law_341 : decode b_La_law 341 = .ok (.iadd, 1) := by decide +kernel
theorem d_La_law_342 : decode b_La_law 342 = .ok (.iaload, 1) := by decide +kernel
theorem d_La_law_343 : decode b_La_law 343 = .ok (.ifCond .eq 7, 3) := by decide +kernel
theorem d_La_law_346 : decode b_La_law 346 = .ok (.iconst 1, 1) := by decide +kernel
theorem d_La_law_347 : decode b_La_law 347 = .ok (.goto 4, 3) := by decide +kernel
theorem d_La_law_350 : decode b_La_law 350 = .ok (.iconst 0, 1) := by decide +kernel
theorem d_La_law_351 : decode b_La_law 351 = .ok (.invokevirtual 81, 3) := by decide +kernel
theorem d_La_law_354 : decode b_La_law 354 = .ok (.istore 6, 2) := by decide +kernel
theorem d_La_law_356 : decode b_La_law 356 = .ok (.aload_n 2, 1) := by decide +kernel
theorem d_La_law_357 : decode b_La_law 357 = .ok (.invokevirtual 64, 3) := by decide +kernel
theorem d_La_law_360 : decode b_La_law 360 = .ok (.iload 5, 2) := by decide +kernel
theorem d_La_law_362 : decode b_La_law 362 = .ok (.if_icmp .eq 5, 3) := by decide +kernel
theorem d_La_law_365 : decode b_La_law 365 = .ok (.iconst 0, 1) := by decide +kernel
theorem d_La_law_366 : decode b_La_law 366 = .ok (.ireturn, 1) := by decide +kernel
theorem d_La_law_367 : decode b_La_law 367 = .ok (.iload 5, 2) := by decide +kernel
theorem d_La_law_369 : decode b_La_law 369 = .ok (.ifCond .ne 22, 3) := by decide +kernel
theorem d_La_law_372 : decode b_La_law 372 = .ok (.aload_n 3, 1) := by decide +kernel
theorem d_La_law_373 : decode b_La_law 373 = .ok (.iconst 0, 1) := by decide +kernel
theorem d_La_law_374 : decode b_La_law 374 = .ok (.laload, 1) := by decide +kernel
theorem d_La_law_375 : decode b_La_law 375 = .ok (.iload 6, 2) := by decide +kernel
theorem d_La_law_377 : decode b_La_law 377 = .ok (.ifCond .eq 7, 3) := by decide +kernel
theorem d_La_law_380 : decode b_La_law 380 = .ok (.lconst 1, 1) := by decide +kernel
theorem d_La_law_381 : decode b_La_law 381 = .ok (.goto 4, 3) := by decide +kernel
theorem d_La_law_384 : decode b_La_law 384 = .ok (.lconst 0, 1) := by decide +kernel
theorem d_La_law_385 : decode b_La_law 385 = .ok (.lcmp, 1) := by decide +kernel
theorem d_La_law_386 : decode b_La_law 386 = .ok (.ifCond .eq 5, 3) := by decide +kernel
theorem d_La_law_389 : decode b_La_law 389 = .ok (.iconst 0, 1) := by decide +kernel
theorem d_La_law_390 : decode b_La_law 390 = .ok (.ireturn, 1) := by decide +kernel
theorem d_La_law_391 : decode b_La_law 391 = .ok (.goto 474, 3) := by decide +kernel
theorem d_La_law_394 : decode b_La_law 394 = .ok (.aload_n 1, 1) := by decide +kernel
theorem d_La_law_395 : decode b_La_law 395 = .ok (.invokevirtual 82, 3) := by decide +kernel
theorem d_La_law_398 : decode b_La_law 398 = .ok (.aload_n 2, 1) := by decide +kernel
theorem d_La_law_399 : decode b_La_law 399 = .ok (.invokevirtual 85, 3) := by decide +kernel
theorem d_La_law_402 : decode b_La_law 402 = .ok (.if_icmp .eq 463, 3) := by decide +kernel
theorem d_La_law_405 : decode b_La_law 405 = .ok (.iconst 0, 1) := by decide +kernel
theorem d_La_law_406 : decode b_La_law 406 = .ok (.ireturn, 1) := by decide +kernel
theorem d_La_law_407 : decode b_La_law 407 = .ok (.aload_n 1, 1) := by decide +kernel
theorem d_La_law_408 : decode b_La_law 408 = .ok (.aload_n 0, 1) := by decide +kernel
theorem d_La_law_409 : decode b_La_law 409 = .ok (.iload 4, 2) := by decide +kernel
theorem d_La_law_411 : decode b_La_law 411 = .ok (.iconst 1, 1) := by decide +kernel
theorem d_La_law_412 : decode b_La_law 412 = .ok (.iadd, 1) := by decide +kernel
theorem d_La_law_413 : decode b_La_law 413 = .ok (.iaload, 1) := by decide +kernel
theorem d_La_law_414 : decode b_La_law 414 = .ok (.aload_n 3, 1) := by decide +kernel
theorem d_La_law_415 : decode b_La_law 415 = .ok (.invokestatic 86, 3) := by decide +kernel
theorem d_La_law_418 : decode b_La_law 418 = .ok (.istore 5, 2) := by decide +kernel
theorem d_La_law_420 : decode b_La_law 420 = .ok (.aload_n 2, 1) := by decide +kernel
theorem d_La_law_421 : decode b_La_law 421 = .ok (.aload_n 0, 1) := by decide +kernel
theorem d_La_law_422 : decode b_La_law 422 = .ok (.iload 4, 2) := by decide +kernel
theorem d_La_law_424 : decode b_La_law 424 = .ok (.iconst 1, 1) := by decide +kernel
theorem d_La_law_425 : decode b_La_law 425 = .ok (.iadd, 1) := by decide +kernel
theorem d_La_law_426 : decode b_La_law 426 = .ok (.iaload, 1) := by decide +kernel
theorem d_La_law_427 : decode b_La_law 427 = .ok (.invokevirtual 88, 3) := by decide +kernel
theorem d_La_law_430 : decode b_La_law 430 = .ok (.istore 6, 2) := by decide +kernel
theorem d_La_law_432 : decode b_La_law 432 = .ok (.aload_n 2, 1) := by decide +kernel
theorem d_La_law_433 : decode b_La_law 433 = .ok (.invokevirtual 64, 3) := by decide +kernel
theorem d_La_law_436 : decode b_La_law 436 = .ok (.iload 5, 2) := by decide +kernel
theorem d_La_law_438 : decode b_La_law 438 = .ok (.if_icmp .eq 5, 3) := by decide +kernel
theorem d_La_law_441 : decode b_La_law 441 = .ok (.iconst 0, 1) := by decide +kernel
theorem d_La_law_442 : decode b_La_law 442 = .ok (.ireturn, 1) := by decide +kernel
theorem d_La_law_443 : decode b_La_law 443 = .ok (.iload 5, 2) := by decide +kernel
theorem d_La_law_445 : decode b_La_law 445 = .ok (.ifCond .ne 22, 3) := by decide +kernel
theorem d_La_law_448 : decode b_La_law 448 = .ok (.aload_n 3, 1) := by decide +kernel
theorem d_La_law_449 : decode b_La_law 449 = .ok (.iconst 0, 1) := by decide +kernel
theorem d_La_law_450 : decode b_La_law 450 = .ok (.laload, 1) := by decide +kernel
theorem d_La_law_451 : decode b_La_law 451 = .ok (.iload 6, 2) := by decide +kernel
theorem d_La_law_453 : decode b_La_law 453 = .ok (.ifCond .eq 7, 3) := by decide +kernel
theorem d_La_law_456 : decode b_La_law 456 = .ok (.lconst 1, 1) := by decide +kernel
theorem d_La_law_457 : decode b_La_law 457 = .ok (.goto 4, 3) := by decide +kernel
theorem d_La_law_460 : decode b_La_law 460 = .ok (.lconst 0, 1) := by decide +kernel
theorem d_La_law_461 : decode b_La_law 461 = .ok (.lcmp, 1) := by decide +kernel
theorem d_La_law_462 : decode b_La_law 462 = .ok (.ifCond .eq 5, 3) := by decide +kernel
theorem d_La_law_465 : decode b_La_law 465 = .ok (.iconst 0, 1) := by decide +kernel
theorem d_La_law_466 : decode b_La_law 466 = .ok (.ireturn, 1) := by decide +kernel
theorem d_La_law_467 : decode b_La_law 467 = .ok (.goto 398, 3) := by decide +kernel
theorem d_La_law_470 : decode b_La_law 470 = .ok (.aload_n 1, 1) := by decide +kernel
theorem d_La_law_471 : decode b_La_law 471 = .ok (.invokevirtual 89, 3) := by decide +kernel
theorem d_La_law_474 : decode b_La_law 474 = .ok (.aload_n 2, 1) := by decide +kernel
theorem d_La_law_475 : decode b_La_law 475 = .ok (.invokevirtual 93, 3) := by decide +kernel
theorem d_La_law_478 : decode b_La_law 478 = .ok (.if_icmp .eq 387, 3) := by decide +kernel
theorem d_La_law_481 : decode b_La_law 481 = .ok (.iconst 0, 1) := by decide +kernel
theorem d_La_law_482 : decode b_La_law 482 = .ok (.ireturn, 1) := by decide +kernel
theorem d_La_law_483 : decode b_La_law 483 = .ok (.aload_n 1, 1) := by decide +kernel
theorem d_La_law_484 : decode b_La_law 484 = .ok (.aload_n 3, 1) := by decide +kernel
theorem d_La_law_485 : decode b_La_law 485 = .ok (.invokestatic 94, 3) := by decide +kernel
theorem d_La_law_488 : decode b_La_law 488 = .ok (.istore 5, 2) := by decide +kernel
theorem d_La_law_490 : decode b_La_law 490 = .ok (.aload_n 2, 1) := by decide +kernel
theorem d_La_law_491 : decode b_La_law 491 = .ok (.invokevirtual 97, 3) := by decide +kernel
theorem d_La_law_494 : decode b_La_law 494 = .ok (.istore 6, 2) := by decide +kernel
theorem d_La_law_496 : decode b_La_law 496 = .ok (.aload_n 2, 1) := by decide +kernel
theorem d_La_law_497 : decode b_La_law 497 = .ok (.invokevirtual 64, 3) := by decide +kernel
theorem d_La_law_500 : decode b_La_law 500 = .ok (.iload 5, 2) := by decide +kernel
theorem d_La_law_502 : decode b_La_law 502 = .ok (.if_icmp .eq 5, 3) := by decide +kernel
theorem d_La_law_505 : decode b_La_law 505 = .ok (.iconst 0, 1) := by decide +kernel
theorem d_La_law_506 : decode b_La_law 506 = .ok (.ireturn, 1) := by decide +kernel
theorem d_La_law_507 : decode b_La_law 507 = .ok (.iload 5, 2) := by decide +kernel
theorem d_La_law_509 : decode b_La_law 509 = .ok (.ifCond .ne 15, 3) := by decide +kernel
theorem d_La_law_512 : decode b_La_law 512 = .ok (.aload_n 3, 1) := by decide +kernel
theorem d_La_law_513 : decode b_La_law 513 = .ok (.iconst 0, 1) := by decide +kernel
theorem d_La_law_514 : decode b_La_law 514 = .ok (.laload, 1) := by decide +kernel
theorem d_La_law_515 : decode b_La_law 515 = .ok (.iload 6, 2) := by decide +kernel
theorem d_La_law_517 : decode b_La_law 517 = .ok (.i2l, 1) := by decide +kernel
theorem d_La_law_518 : decode b_La_law 518 = .ok (.lcmp, 1) := by decide +kernel
theorem d_La_law_519 : decode b_La_law 519 = .ok (.ifCond .eq 5, 3) := by decide +kernel
theorem d_La_law_522 : decode b_La_law 522 = .ok (.iconst 0, 1) := by decide +kernel
theorem d_La_law_523 : decode b_La_law 523 = .ok (.ireturn, 1) := by decide +kernel
theorem d_La_law_524 : decode b_La_law 524 = .ok (.goto 341, 3) := by decide +kernel
theorem d_La_law_527 : decode b_La_law 527 = .ok (.aload_n 1, 1) := by decide +kernel
theorem d_La_law_528 : decode b_La_law 528 = .ok (.invokevirtual 98, 3) := by decide +kernel
theorem d_La_law_531 : decode b_La_law 531 = .ok (.aload_n 2, 1) := by decide +kernel
theorem d_La_law_532 : decode b_La_law 532 = .ok (.invokevirtual 101, 3) := by decide +kernel
theorem d_La_law_535 : decode b_La_law 535 = .ok (.if_icmp .eq 330, 3) := by decide +kernel
theorem d_La_law_538 : decode b_La_law 538 = .ok (.iconst 0, 1) := by decide +kernel
theorem d_La_law_539 : decode b_La_law 539 = .ok (.ireturn, 1) := by decide +kernel
theorem d_La_law_540 : decode b_La_law 540 = .ok (.aload_n 1, 1) := by decide +kernel
theorem d_La_law_541 : decode b_La_law 541 = .ok (.aload_n 0, 1) := by decide +kernel
theorem d_La_law_542 : decode b_La_law 542 = .ok (.iload 4, 2) := by decide +kernel
theorem d_La_law_544 : decode b_La_law 544 = .ok (.iconst 1, 1) := by decide +kernel
theorem d_La_law_545 : decode b_La_law 545 = .ok (.iadd, 1) := by decide +kernel
theorem d_La_law_546 : decode b_La_law 546 = .ok (.iaload, 1) := by decide +kernel
theorem d_La_law_547 : decode b_La_law 547 = .ok (.aload_n 3, 1) := by decide +kernel
theorem d_La_law_548 : decode b_La_law 548 = .ok (.invokestatic 102, 3) := by decide +kernel
theorem d_La_law_551 : decode b_La_law 551 = .ok (.istore 5, 2) := by decide +kernel
theorem d_La_law_553 : decode b_La_law 553 = .ok (.aload_n 2, 1) := by decide +kernel
theorem d_La_law_554 : decode b_La_law 554 = .ok (.aload_n 0, 1) := by decide +kernel
theorem d_La_law_555 : decode b_La_law 555 = .ok (.iload 4, 2) := by decide +kernel
theorem d_La_law_557 : decode b_La_law 557 = .ok (.iconst 1, 1) := by decide +kernel
theorem d_La_law_558 : decode b_La_law 558 = .ok (.iadd, 1) := by decide +kernel
theorem d_La_law_559 : decode b_La_law 559 = .ok (.iaload, 1) := by decide +kernel
theorem d_La_law_560 : decode b_La_law 560 = .ok (.invokevirtual 104, 3) := by decide +kernel
theorem d_La_law_563 : decode b_La_law 563 = .ok (.istore 6, 2) := by decide +kernel
theorem d_La_law_565 : decode b_La_law 565 = .ok (.aload_n 2, 1) := by decide +kernel
theorem d_La_law_566 : decode b_La_law 566 = .ok (.invokevirtual 64, 3) := by decide +kernel
theorem d_La_law_569 : decode b_La_law 569 = .ok (.iload 5, 2) := by decide +kernel
theorem d_La_law_571 : decode b_La_law 571 = .ok (.if_icmp .eq 5, 3) := by decide +kernel
theorem d_La_law_574 : decode b_La_law 574 = .ok (.iconst 0, 1) := by decide +kernel
theorem d_La_law_575 : decode b_La_law 575 = .ok (.ireturn, 1) := by decide +kernel
theorem d_La_law_576 : decode b_La_law 576 = .ok (.iload 5, 2) := by decide +kernel
theorem d_La_law_578 : decode b_La_law 578 = .ok (.ifCond .ne 15, 3) := by decide +kernel
theorem d_La_law_581 : decode b_La_law 581 = .ok (.aload_n 3, 1) := by decide +kernel
theorem d_La_law_582 : decode b_La_law 582 = .ok (.iconst 0, 1) := by decide +kernel
theorem d_La_law_583 : decode b_La_law 583 = .ok (.laload, 1) := by decide +kernel
theorem d_La_law_584 : decode b_La_law 584 = .ok (.iload 6, 2) := by decide +kernel
theorem d_La_law_586 : decode b_La_law 586 = .ok (.i2l, 1) := by decide +kernel
theorem d_La_law_587 : decode b_La_law 587 = .ok (.lcmp, 1) := by decide +kernel
theorem d_La_law_588 : decode b_La_law 588 = .ok (.ifCond .eq 5, 3) := by decide +kernel
theorem d_La_law_591 : decode b_La_law 591 = .ok (.iconst 0, 1) := by decide +kernel
theorem d_La_law_592 : decode b_La_law 592 = .ok (.ireturn, 1) := by decide +kernel
theorem d_La_law_593 : decode b_La_law 593 = .ok (.goto 272, 3) := by decide +kernel
theorem d_La_law_596 : decode b_La_law 596 = .ok (.aload_n 1, 1) := by decide +kernel
theorem d_La_law_597 : decode b_La_law 597 = .ok (.invokevirtual 105, 3) := by decide +kernel
theorem d_La_law_600 : decode b_La_law 600 = .ok (.aload_n 2, 1) := by decide +kernel
theorem d_La_law_601 : decode b_La_law 601 = .ok (.invokevirtual 108, 3) := by decide +kernel
theorem d_La_law_604 : decode b_La_law 604 = .ok (.if_icmp .eq 261, 3) := by decide +kernel
theorem d_La_law_607 : decode b_La_law 607 = .ok (.iconst 0, 1) := by decide +kernel
theorem d_La_law_608 : decode b_La_law 608 = .ok (.ireturn, 1) := by decide +kernel
theorem d_La_law_609 : decode b_La_law 609 = .ok (.aload_n 1, 1) := by decide +kernel
theorem d_La_law_610 : decode b_La_law 610 = .ok (.aload_n 0, 1) := by decide +kernel
theorem d_La_law_611 : decode b_La_law 611 = .ok (.iload 4, 2) := by decide +kernel
theorem d_La_law_613 : decode b_La_law 613 = .ok (.iconst 1, 1) := by decide +kernel
theorem d_La_law_614 : decode b_La_law 614 = .ok (.iadd, 1) := by decide +kernel
theorem d_La_law_615 : decode b_La_law 615 = .ok (.iaload, 1) := by decide +kernel
theorem d_La_law_616 : decode b_La_law 616 = .ok (.aload_n 0, 1) := by decide +kernel
theorem d_La_law_617 : decode b_La_law 617 = .ok (.iload 4, 2) := by decide +kernel
theorem d_La_law_619 : decode b_La_law 619 = .ok (.iconst 2, 1) := by decide +kernel
theorem d_La_law_620 : decode b_La_law 620 = .ok (.iadd, 1) := by decide +kernel
theorem d_La_law_621 : decode b_La_law 621 = .ok (.iaload, 1) := by decide +kernel
theorem d_La_law_622 : decode b_La_law 622 = .ok (.aload_n 3, 1) := by decide +kernel
theorem d_La_law_623 : decode b_La_law 623 = .ok (.invokestatic 109, 3) := by decide +kernel
theorem d_La_law_626 : decode b_La_law 626 = .ok (.istore 5, 2) := by decide +kernel
theorem d_La_law_628 : decode b_La_law 628 = .ok (.aload_n 2, 1) := by decide +kernel
theorem d_La_law_629 : decode b_La_law 629 = .ok (.aload_n 0, 1) := by decide +kernel
theorem d_La_law_630 : decode b_La_law 630 = .ok (.iload 4, 2) := by decide +kernel
theorem d_La_law_632 : decode b_La_law 632 = .ok (.iconst 1, 1) := by decide +kernel
theorem d_La_law_633 : decode b_La_law 633 = .ok (.iadd, 1) := by decide +kernel
theorem d_La_law_634 : decode b_La_law 634 = .ok (.iaload, 1) := by decide +kernel
theorem d_La_law_635 : decode b_La_law 635 = .ok (.aload_n 0, 1) := by decide +kernel
theorem d_La_law_636 : decode b_La_law 636 = .ok (.iload 4, 2) := by decide +kernel
theorem d_La_law_638 : decode b_La_law 638 = .ok (.iconst 2, 1) := by decide +kernel
theorem d_La_law_639 : decode b_La_law 639 = .ok (.iadd, 1) := by decide +kernel
theorem d_La_law_640 : decode b_La_law 640 = .ok (.iaload, 1) := by decide +kernel
theorem d_La_law_641 : decode b_La_law 641 = .ok (.invokevirtual 111, 3) := by decide +kernel
theorem d_La_law_644 : decode b_La_law 644 = .ok (.istore 6, 2) := by decide +kernel
theorem d_La_law_646 : decode b_La_law 646 = .ok (.aload_n 2, 1) := by decide +kernel
theorem d_La_law_647 : decode b_La_law 647 = .ok (.invokevirtual 64, 3) := by decide +kernel
theorem d_La_law_650 : decode b_La_law 650 = .ok (.iload 5, 2) := by decide +kernel
theorem d_La_law_652 : decode b_La_law 652 = .ok (.if_icmp .eq 5, 3) := by decide +kernel
theorem d_La_law_655 : decode b_La_law 655 = .ok (.iconst 0, 1) := by decide +kernel
theorem d_La_law_656 : decode b_La_law 656 = .ok (.ireturn, 1) := by decide +kernel
theorem d_La_law_657 : decode b_La_law 657 = .ok (.iload 5, 2) := by decide +kernel
theorem d_La_law_659 : decode b_La_law 659 = .ok (.ifCond .ne 15, 3) := by decide +kernel
theorem d_La_law_662 : decode b_La_law 662 = .ok (.aload_n 3, 1) := by decide +kernel
theorem d_La_law_663 : decode b_La_law 663 = .ok (.iconst 0, 1) := by decide +kernel
theorem d_La_law_664 : decode b_La_law 664 = .ok (.laload, 1) := by decide +kernel
theorem d_La_law_665 : decode b_La_law 665 = .ok (.iload 6, 2) := by decide +kernel
theorem d_La_law_667 : decode b_La_law 667 = .ok (.i2l, 1) := by decide +kernel
theorem d_La_law_668 : decode b_La_law 668 = .ok (.lcmp, 1) := by decide +kernel
theorem d_La_law_669 : decode b_La_law 669 = .ok (.ifCond .eq 5, 3) := by decide +kernel
theorem d_La_law_672 : decode b_La_law 672 = .ok (.iconst 0, 1) := by decide +kernel
theorem d_La_law_673 : decode b_La_law 673 = .ok (.ireturn, 1) := by decide +kernel
theorem d_La_law_674 : decode b_La_law 674 = .ok (.goto 191, 3) := by decide +kernel
theorem d_La_law_677 : decode b_La_law 677 = .ok (.aload_n 1, 1) := by decide +kernel
theorem d_La_law_678 : decode b_La_law 678 = .ok (.aload_n 0, 1) := by decide +kernel
theorem d_La_law_679 : decode b_La_law 679 = .ok (.iload 4, 2) := by decide +kernel
theorem d_La_law_681 : decode b_La_law 681 = .ok (.iconst 1, 1) := by decide +kernel
theorem d_La_law_682 : decode b_La_law 682 = .ok (.iadd, 1) := by decide +kernel
theorem d_La_law_683 : decode b_La_law 683 = .ok (.iaload, 1) := by decide +kernel
theorem d_La_law_684 : decode b_La_law 684 = .ok (.aload_n 3, 1) := by decide +kernel
theorem d_La_law_685 : decode b_La_law 685 = .ok (.invokestatic 112, 3) := by decide +kernel
theorem d_La_law_688 : decode b_La_law 688 = .ok (.istore 5, 2) := by decide +kernel
theorem d_La_law_690 : decode b_La_law 690 = .ok (.aload_n 2, 1) := by decide +kernel
theorem d_La_law_691 : decode b_La_law 691 = .ok (.aload_n 0, 1) := by decide +kernel
theorem d_La_law_692 : decode b_La_law 692 = .ok (.iload 4, 2) := by decide +kernel
theorem d_La_law_694 : decode b_La_law 694 = .ok (.iconst 1, 1) := by decide +kernel
theorem d_La_law_695 : decode b_La_law 695 = .ok (.iadd, 1) := by decide +kernel
theorem d_La_law_696 : decode b_La_law 696 = .ok (.iaload, 1) := by decide +kernel
theorem d_La_law_697 : decode b_La_law 697 = .ok (.invokevirtual 114, 3) := by decide +kernel
theorem d_La_law_700 : decode b_La_law 700 = .ok (.istore 6, 2) := by decide +kernel
theorem d_La_law_702 : decode b_La_law 702 = .ok (.aload_n 2, 1) := by decide +kernel
theorem d_La_law_703 : decode b_La_law 703 = .ok (.invokevirtual 64, 3) := by decide +kernel
theorem d_La_law_706 : decode b_La_law 706 = .ok (.iload 5, 2) := by decide +kernel
theorem d_La_law_708 : decode b_La_law 708 = .ok (.if_icmp .eq 5, 3) := by decide +kernel
theorem d_La_law_711 : decode b_La_law 711 = .ok (.iconst 0, 1) := by decide +kernel
theorem d_La_law_712 : decode b_La_law 712 = .ok (.ireturn, 1) := by decide +kernel
theorem d_La_law_713 : decode b_La_law 713 = .ok (.iload 5, 2) := by decide +kernel
theorem d_La_law_715 : decode b_La_law 715 = .ok (.ifCond .ne 15, 3) := by decide +kernel
theorem d_La_law_718 : decode b_La_law 718 = .ok (.aload_n 3, 1) := by decide +kernel
theorem d_La_law_719 : decode b_La_law 719 = .ok (.iconst 0, 1) := by decide +kernel
theorem d_La_law_720 : decode b_La_law 720 = .ok (.laload, 1) := by decide +kernel
theorem d_La_law_721 : decode b_La_law 721 = .ok (.iload 6, 2) := by decide +kernel
theorem d_La_law_723 : decode b_La_law 723 = .ok (.i2l, 1) := by decide +kernel
theorem d_La_law_724 : decode b_La_law 724 = .ok (.lcmp, 1) := by decide +kernel
theorem d_La_law_725 : decode b_La_law 725 = .ok (.ifCond .eq 5, 3) := by decide +kernel
theorem d_La_law_728 : decode b_La_law 728 = .ok (.iconst 0, 1) := by decide +kernel
theorem d_La_law_729 : decode b_La_law 729 = .ok (.ireturn, 1) := by decide +kernel
theorem d_La_law_730 : decode b_La_law 730 = .ok (.goto 135, 3) := by decide +kernel
theorem d_La_law_733 : decode b_La_law 733 = .ok (.aload_n 1, 1) := by decide +kernel
theorem d_La_law_734 : decode b_La_law 734 = .ok (.aload_n 0, 1) := by decide +kernel
theorem d_La_law_735 : decode b_La_law 735 = .ok (.iload 4, 2) := by decide +kernel
theorem d_La_law_737 : decode b_La_law 737 = .ok (.iconst 1, 1) := by decide +kernel
theorem d_La_law_738 : decode b_La_law 738 = .ok (.iadd, 1) := by decide +kernel
theorem d_La_law_739 : decode b_La_law 739 = .ok (.iaload, 1) := by decide +kernel
theorem d_La_law_740 : decode b_La_law 740 = .ok (.i2l, 1) := by decide +kernel
theorem d_La_law_741 : decode b_La_law 741 = .ok (.bipush 32, 2) := by decide +kernel
theorem d_La_law_743 : decode b_La_law 743 = .ok (.lshl, 1) := by decide +kernel
theorem d_La_law_744 : decode b_La_law 744 = .ok (.aload_n 0, 1) := by decide +kernel
theorem d_La_law_745 : decode b_La_law 745 = .ok (.iload 4, 2) := by decide +kernel
theorem d_La_law_747 : decode b_La_law 747 = .ok (.iconst 2, 1) := by decide +kernel
theorem d_La_law_748 : decode b_La_law 748 = .ok (.iadd, 1) := by decide +kernel
theorem d_La_law_749 : decode b_La_law 749 = .ok (.iaload, 1) := by decide +kernel
theorem d_La_law_750 : decode b_La_law 750 = .ok (.i2l, 1) := by decide +kernel
theorem d_La_law_751 : decode b_La_law 751 = .ok (.ldc2_w 67, 3) := by decide +kernel
theorem d_La_law_754 : decode b_La_law 754 = .ok (.land, 1) := by decide +kernel
theorem d_La_law_755 : decode b_La_law 755 = .ok (.lor, 1) := by decide +kernel
theorem d_La_law_756 : decode b_La_law 756 = .ok (.aload_n 0, 1) := by decide +kernel
theorem d_La_law_757 : decode b_La_law 757 = .ok (.iload 4, 2) := by decide +kernel
theorem d_La_law_759 : decode b_La_law 759 = .ok (.iconst 3, 1) := by decide +kernel
theorem d_La_law_760 : decode b_La_law 760 = .ok (.iadd, 1) := by decide +kernel
theorem d_La_law_761 : decode b_La_law 761 = .ok (.iaload, 1) := by decide +kernel
theorem d_La_law_762 : decode b_La_law 762 = .ok (.aload_n 3, 1) := by decide +kernel
theorem d_La_law_763 : decode b_La_law 763 = .ok (.invokestatic 115, 3) := by decide +kernel
theorem d_La_law_766 : decode b_La_law 766 = .ok (.istore 5, 2) := by decide +kernel
theorem d_La_law_768 : decode b_La_law 768 = .ok (.aload_n 2, 1) := by decide +kernel
theorem d_La_law_769 : decode b_La_law 769 = .ok (.aload_n 0, 1) := by decide +kernel
theorem d_La_law_770 : decode b_La_law 770 = .ok (.iload 4, 2) := by decide +kernel
theorem d_La_law_772 : decode b_La_law 772 = .ok (.iconst 1, 1) := by decide +kernel
theorem d_La_law_773 : decode b_La_law 773 = .ok (.iadd, 1) := by decide +kernel
theorem d_La_law_774 : decode b_La_law 774 = .ok (.iaload, 1) := by decide +kernel
theorem d_La_law_775 : decode b_La_law 775 = .ok (.i2l, 1) := by decide +kernel
theorem d_La_law_776 : decode b_La_law 776 = .ok (.bipush 32, 2) := by decide +kernel
theorem d_La_law_778 : decode b_La_law 778 = .ok (.lshl, 1) := by decide +kernel
theorem d_La_law_779 : decode b_La_law 779 = .ok (.aload_n 0, 1) := by decide +kernel
theorem d_La_law_780 : decode b_La_law 780 = .ok (.iload 4, 2) := by decide +kernel
theorem d_La_law_782 : decode b_La_law 782 = .ok (.iconst 2, 1) := by decide +kernel
theorem d_La_law_783 : decode b_La_law 783 = .ok (.iadd, 1) := by decide +kernel
theorem d_La_law_784 : decode b_La_law 784 = .ok (.iaload, 1) := by decide +kernel
theorem d_La_law_785 : decode b_La_law 785 = .ok (.i2l, 1) := by decide +kernel
theorem d_La_law_786 : decode b_La_law 786 = .ok (.ldc2_w 67, 3) := by decide +kernel
theorem d_La_law_789 : decode b_La_law 789 = .ok (.land, 1) := by decide +kernel
theorem d_La_law_790 : decode b_La_law 790 = .ok (.lor, 1) := by decide +kernel
theorem d_La_law_791 : decode b_La_law 791 = .ok (.aload_n 0, 1) := by decide +kernel
theorem d_La_law_792 : decode b_La_law 792 = .ok (.iload 4, 2) := by decide +kernel
theorem d_La_law_794 : decode b_La_law 794 = .ok (.iconst 3, 1) := by decide +kernel
theorem d_La_law_795 : decode b_La_law 795 = .ok (.iadd, 1) := by decide +kernel
theorem d_La_law_796 : decode b_La_law 796 = .ok (.iaload, 1) := by decide +kernel
theorem d_La_law_797 : decode b_La_law 797 = .ok (.invokevirtual 118, 3) := by decide +kernel
theorem d_La_law_800 : decode b_La_law 800 = .ok (.istore 6, 2) := by decide +kernel
theorem d_La_law_802 : decode b_La_law 802 = .ok (.aload_n 2, 1) := by decide +kernel
theorem d_La_law_803 : decode b_La_law 803 = .ok (.invokevirtual 64, 3) := by decide +kernel
theorem d_La_law_806 : decode b_La_law 806 = .ok (.iload 5, 2) := by decide +kernel
theorem d_La_law_808 : decode b_La_law 808 = .ok (.if_icmp .eq 5, 3) := by decide +kernel
theorem d_La_law_811 : decode b_La_law 811 = .ok (.iconst 0, 1) := by decide +kernel
theorem d_La_law_812 : decode b_La_law 812 = .ok (.ireturn, 1) := by decide +kernel
theorem d_La_law_813 : decode b_La_law 813 = .ok (.iload 5, 2) := by decide +kernel
theorem d_La_law_815 : decode b_La_law 815 = .ok (.ifCond .ne 22, 3) := by decide +kernel
theorem d_La_law_818 : decode b_La_law 818 = .ok (.aload_n 3, 1) := by decide +kernel
theorem d_La_law_819 : decode b_La_law 819 = .ok (.iconst 0, 1) := by decide +kernel
theorem d_La_law_820 : decode b_La_law 820 = .ok (.laload, 1) := by decide +kernel
theorem d_La_law_821 : decode b_La_law 821 = .ok (.iload 6, 2) := by decide +kernel
theorem d_La_law_823 : decode b_La_law 823 = .ok (.ifCond .eq 7, 3) := by decide +kernel
theorem d_La_law_826 : decode b_La_law 826 = .ok (.lconst 1, 1) := by decide +kernel
theorem d_La_law_827 : decode b_La_law 827 = .ok (.goto 4, 3) := by decide +kernel
theorem d_La_law_830 : decode b_La_law 830 = .ok (.lconst 0, 1) := by decide +kernel
theorem d_La_law_831 : decode b_La_law 831 = .ok (.lcmp, 1) := by decide +kernel
theorem d_La_law_832 : decode b_La_law 832 = .ok (.ifCond .eq 5, 3) := by decide +kernel
theorem d_La_law_835 : decode b_La_law 835 = .ok (.iconst 0, 1) := by decide +kernel
theorem d_La_law_836 : decode b_La_law 836 = .ok (.ireturn, 1) := by decide +kernel
theorem d_La_law_837 : decode b_La_law 837 = .ok (.goto 28, 3) := by decide +kernel
theorem d_La_law_840 : decode b_La_law 840 = .ok (.aload_n 1, 1) := by decide +kernel
theorem d_La_law_841 : decode b_La_law 841 = .ok (.aload_n 0, 1) := by decide +kernel
theorem d_La_law_842 : decode b_La_law 842 = .ok (.iload 4, 2) := by decide +kernel
theorem d_La_law_844 : decode b_La_law 844 = .ok (.iconst 1, 1) := by decide +kernel
theorem d_La_law_845 : decode b_La_law 845 = .ok (.iadd, 1) := by decide +kernel
theorem d_La_law_846 : decode b_La_law 846 = .ok (.iaload, 1) := by decide +kernel
theorem d_La_law_847 : decode b_La_law 847 = .ok (.invokevirtual 119, 3) := by decide +kernel
theorem d_La_law_850 : decode b_La_law 850 = .ok (.aload_n 2, 1) := by decide +kernel
theorem d_La_law_851 : decode b_La_law 851 = .ok (.aload_n 0, 1) := by decide +kernel
theorem d_La_law_852 : decode b_La_law 852 = .ok (.iload 4, 2) := by decide +kernel
theorem d_La_law_854 : decode b_La_law 854 = .ok (.iconst 1, 1) := by decide +kernel
theorem d_La_law_855 : decode b_La_law 855 = .ok (.iadd, 1) := by decide +kernel
theorem d_La_law_856 : decode b_La_law 856 = .ok (.iaload, 1) := by decide +kernel
theorem d_La_law_857 : decode b_La_law 857 = .ok (.invokevirtual 122, 3) := by decide +kernel
theorem d_La_law_860 : decode b_La_law 860 = .ok (.if_icmp .eq 5, 3) := by decide +kernel
theorem d_La_law_863 : decode b_La_law 863 = .ok (.iconst 0, 1) := by decide +kernel
theorem d_La_law_864 : decode b_La_law 864 = .ok (.ireturn, 1) := by decide +kernel
theorem d_La_law_865 : decode b_La_law 865 = .ok (.iinc 4 4, 3) := by decide +kernel
theorem d_La_law_868 : decode b_La_law 868 = .ok (.goto (-835), 3) := by decide +kernel
theorem d_La_law_871 : decode b_La_law 871 = .ok (.iconst 1, 1) := by decide +kernel
theorem d_La_law_872 : decode b_La_law 872 = .ok (.ireturn, 1) := by decide +kernel
