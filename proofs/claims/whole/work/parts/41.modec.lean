theorem d_Mo_thrown_0 : decode b_Mo_thrown 0 = .ok (.aload_n 0, 1) := by decide +kernel
theorem d_Mo_thrown_1 : decode b_Mo_thrown 1 = .ok (.getfield 52, 3) := by decide +kernel
theorem d_Mo_thrown_4 : decode b_Mo_thrown 4 = .ok (.ireturn, 1) := by decide +kernel
theorem d_Mo_draw_0 : decode b_Mo_draw 0 = .ok (.aload_n 0, 1) := by decide +kernel
theorem d_Mo_draw_1 : decode b_Mo_draw 1 = .ok (.iload_n 1, 1) := by decide +kernel
theorem d_Mo_draw_2 : decode b_Mo_draw 2 = .ok (.iconst 0, 1) := by decide +kernel
theorem d_Mo_draw_3 : decode b_Mo_draw 3 = .ok (.iconst 5, 1) := by decide +kernel
theorem d_Mo_draw_4 : decode b_Mo_draw 4 = .ok (.invokestatic 70, 3) := by decide +kernel
theorem d_Mo_draw_7 : decode b_Mo_draw 7 = .ok (.ifCond .eq 7, 3) := by decide +kernel
theorem d_Mo_draw_10 : decode b_Mo_draw 10 = .ok (.iconst 0, 1) := by decide +kernel
theorem d_Mo_draw_11 : decode b_Mo_draw 11 = .ok (.goto 4, 3) := by decide +kernel
theorem d_Mo_draw_14 : decode b_Mo_draw 14 = .ok (.iconst 1, 1) := by decide +kernel
theorem d_Mo_draw_15 : decode b_Mo_draw 15 = .ok (.putfield 52, 3) := by decide +kernel
theorem d_Mo_draw_18 : decode b_Mo_draw 18 = .ok (.aload_n 0, 1) := by decide +kernel
theorem d_Mo_draw_19 : decode b_Mo_draw 19 = .ok (.getfield 52, 3) := by decide +kernel
theorem d_Mo_draw_22 : decode b_Mo_draw 22 = .ok (.ifCond .le 5, 3) := by decide +kernel
theorem d_Mo_draw_25 : decode b_Mo_draw 25 = .ok (.iconst 0, 1) := by decide +kernel
theorem d_Mo_draw_26 : decode b_Mo_draw 26 = .ok (.ireturn, 1) := by decide +kernel
theorem d_Mo_draw_27 : decode b_Mo_draw 27 = .ok (.aload_n 0, 1) := by decide +kernel
theorem d_Mo_draw_28 : decode b_Mo_draw 28 = .ok (.iload_n 1, 1) := by decide +kernel
theorem d_Mo_draw_29 : decode b_Mo_draw 29 = .ok (.putfield 9, 3) := by decide +kernel
theorem d_Mo_draw_32 : decode b_Mo_draw 32 = .ok (.aload_n 0, 1) := by decide +kernel
theorem d_Mo_draw_33 : decode b_Mo_draw 33 = .ok (.iload_n 1, 1) := by decide +kernel
theorem d_Mo_draw_34 : decode b_Mo_draw 34 = .ok (.invokevirtual 74, 3) := by decide +kernel
theorem d_Mo_draw_37 : decode b_Mo_draw 37 = .ok (.iconst 1, 1) := by decide +kernel
theorem d_Mo_draw_38 : decode b_Mo_draw 38 = .ok (.istore_n 2, 1) := by decide +kernel
theorem d_Mo_draw_39 : decode b_Mo_draw 39 = .ok (.aload_n 0, 1) := by decide +kernel
theorem d_Mo_draw_40 : decode b_Mo_draw 40 = .ok (.aload_n 0, 1) := by decide +kernel
theorem d_Mo_draw_41 : decode b_Mo_draw 41 = .ok (.getfield 39, 3) := by decide +kernel
theorem d_Mo_draw_44 : decode b_Mo_draw 44 = .ok (.iconst 0, 1) := by decide +kernel
theorem d_Mo_draw_45 : decode b_Mo_draw 45 = .ok (.iaload, 1) := by decide +kernel
theorem d_Mo_draw_46 : decode b_Mo_draw 46 = .ok (.putfield 77, 3) := by decide +kernel
theorem d_Mo_draw_49 : decode b_Mo_draw 49 = .ok (.iconst 0, 1) := by decide +kernel
theorem d_Mo_draw_50 : decode b_Mo_draw 50 = .ok (.istore_n 3, 1) := by decide +kernel
theorem d_Mo_draw_51 : decode b_Mo_draw 51 = .ok (.iload_n 3, 1) := by decide +kernel
theorem d_Mo_draw_52 : decode b_Mo_draw 52 = .ok (.aload_n 0, 1) := by decide +kernel
theorem d_Mo_draw_53 : decode b_Mo_draw 53 = .ok (.getfield 77, 3) := by decide +kernel
theorem d_Mo_draw_56 : decode b_Mo_draw 56 = .ok (.if_icmp .ge 23, 3) := by decide +kernel
theorem d_Mo_draw_59 : decode b_Mo_draw 59 = .ok (.aload_n 0, 1) := by decide +kernel
theorem d_Mo_draw_60 : decode b_Mo_draw 60 = .ok (.getfield 17, 3) := by decide +kernel
theorem d_Mo_draw_63 : decode b_Mo_draw 63 = .ok (.iload_n 3, 1) := by decide +kernel
theorem d_Mo_draw_64 : decode b_Mo_draw 64 = .ok (.aload_n 0, 1) := by decide +kernel
theorem d_Mo_draw_65 : decode b_Mo_draw 65 = .ok (.getfield 39, 3) := by decide +kernel
theorem d_Mo_draw_68 : decode b_Mo_draw 68 = .ok (.iload_n 2, 1) := by decide +kernel
theorem d_Mo_draw_69 : decode b_Mo_draw 69 = .ok (.iload_n 3, 1) := by decide +kernel
theorem d_Mo_draw_70 : decode b_Mo_draw 70 = .ok (.iadd, 1) := by decide +kernel
theorem d_Mo_draw_71 : decode b_Mo_draw 71 = .ok (.iaload, 1) := by decide +kernel
theorem d_Mo_draw_72 : decode b_Mo_draw 72 = .ok (.iastore, 1) := by decide +kernel
theorem d_Mo_draw_73 : decode b_Mo_draw 73 = .ok (.iinc 3 1, 3) := by decide +kernel
theorem d_Mo_draw_76 : decode b_Mo_draw 76 = .ok (.goto (-25), 3) := by decide +kernel
theorem d_Mo_draw_79 : decode b_Mo_draw 79 = .ok (.iload_n 2, 1) := by decide +kernel
theorem d_Mo_draw_80 : decode b_Mo_draw 80 = .ok (.aload_n 0, 1) := by decide +kernel
theorem d_Mo_draw_81 : decode b_Mo_draw 81 = .ok (.getfield 77, 3) := by decide +kernel
theorem d_Mo_draw_84 : decode b_Mo_draw 84 = .ok (.iadd, 1) := by decide +kernel
theorem d_Mo_draw_85 : decode b_Mo_draw 85 = .ok (.istore_n 2, 1) := by decide +kernel
theorem d_Mo_draw_86 : decode b_Mo_draw 86 = .ok (.aload_n 0, 1) := by decide +kernel
theorem d_Mo_draw_87 : decode b_Mo_draw 87 = .ok (.aload_n 0, 1) := by decide +kernel
theorem d_Mo_draw_88 : decode b_Mo_draw 88 = .ok (.getfield 39, 3) := by decide +kernel
theorem d_Mo_draw_91 : decode b_Mo_draw 91 = .ok (.iload_n 2, 1) := by decide +kernel
theorem d_Mo_draw_92 : decode b_Mo_draw 92 = .ok (.iaload, 1) := by decide +kernel
theorem d_Mo_draw_93 : decode b_Mo_draw 93 = .ok (.putfield 80, 3) := by decide +kernel
theorem d_Mo_draw_96 : decode b_Mo_draw 96 = .ok (.iconst 0, 1) := by decide +kernel
theorem d_Mo_draw_97 : decode b_Mo_draw 97 = .ok (.istore_n 3, 1) := by decide +kernel
theorem d_Mo_draw_98 : decode b_Mo_draw 98 = .ok (.iload_n 3, 1) := by decide +kernel
theorem d_Mo_draw_99 : decode b_Mo_draw 99 = .ok (.aload_n 0, 1) := by decide +kernel
theorem d_Mo_draw_100 : decode b_Mo_draw 100 = .ok (.getfield 80, 3) := by decide +kernel
theorem d_Mo_draw_103 : decode b_Mo_draw 103 = .ok (.if_icmp .ge 25, 3) := by decide +kernel
theorem d_Mo_draw_106 : decode b_Mo_draw 106 = .ok (.aload_n 0, 1) := by decide +kernel
theorem d_Mo_draw_107 : decode b_Mo_draw 107 = .ok (.getfield 21, 3) := by decide +kernel
theorem d_Mo_draw_110 : decode b_Mo_draw 110 = .ok (.iload_n 3, 1) := by decide +kernel
theorem d_Mo_draw_111 : decode b_Mo_draw 111 = .ok (.aload_n 0, 1) := by decide +kernel
theorem d_Mo_draw_112 : decode b_Mo_draw 112 = .ok (.getfield 39, 3) := by decide +kernel
theorem d_Mo_draw_115 : decode b_Mo_draw 115 = .ok (.iload_n 2, 1) := by decide +kernel
theorem d_Mo_draw_116 : decode b_Mo_draw 116 = .ok (.iconst 1, 1) := by decide +kernel
theorem d_Mo_draw_117 : decode b_Mo_draw 117 = .ok (.iadd, 1) := by decide +kernel
theorem d_Mo_draw_118 : decode b_Mo_draw 118 = .ok (.iload_n 3, 1) := by decide +kernel
theorem d_Mo_draw_119 : decode b_Mo_draw 119 = .ok (.iadd, 1) := by decide +kernel
theorem d_Mo_draw_120 : decode b_Mo_draw 120 = .ok (.iaload, 1) := by decide +kernel
theorem d_Mo_draw_121 : decode b_Mo_draw 121 = .ok (.iastore, 1) := by decide +kernel
theorem d_Mo_draw_122 : decode b_Mo_draw 122 = .ok (.iinc 3 1, 3) := by decide +kernel
theorem d_Mo_draw_125 : decode b_Mo_draw 125 = .ok (.goto (-27), 3) := by decide +kernel
theorem d_Mo_draw_128 : decode b_Mo_draw 128 = .ok (.iload_n 2, 1) := by decide +kernel
theorem d_Mo_draw_129 : decode b_Mo_draw 129 = .ok (.aload_n 0, 1) := by decide +kernel
theorem d_Mo_draw_130 : decode b_Mo_draw 130 = .ok (.getfield 80, 3) := by decide +kernel
theorem d_Mo_draw_133 : decode b_Mo_draw 133 = .ok (.iconst 1, 1) := by decide +kernel
theorem d_Mo_draw_134 : decode b_Mo_draw 134 = .ok (.iadd, 1) := by decide +kernel
theorem d_Mo_draw_135 : decode b_Mo_draw 135 = .ok (.iadd, 1) := by decide +kernel
theorem d_Mo_draw_136 : decode b_Mo_draw 136 = .ok (.istore_n 2, 1) := by decide +kernel
theorem d_Mo_draw_137 : decode b_Mo_draw 137 = .ok (.aload_n 0, 1) := by decide +kernel
theorem d_Mo_draw_138 : decode b_Mo_draw 138 = .ok (.aload_n 0, 1) := by decide +kernel
theorem d_Mo_draw_139 : decode b_Mo_draw 139 = .ok (.getfield 39, 3) := by decide +kernel
theorem d_Mo_draw_142 : decode b_Mo_draw 142 = .ok (.iload_n 2, 1) := by decide +kernel
theorem d_Mo_draw_143 : decode b_Mo_draw 143 = .ok (.iaload, 1) := by decide +kernel
theorem d_Mo_draw_144 : decode b_Mo_draw 144 = .ok (.putfield 83, 3) := by decide +kernel
theorem d_Mo_draw_147 : decode b_Mo_draw 147 = .ok (.iinc 2 1, 3) := by decide +kernel
theorem d_Mo_draw_150 : decode b_Mo_draw 150 = .ok (.iconst 0, 1) := by decide +kernel
theorem d_Mo_draw_151 : decode b_Mo_draw 151 = .ok (.istore_n 3, 1) := by decide +kernel
theorem d_Mo_draw_152 : decode b_Mo_draw 152 = .ok (.iload_n 3, 1) := by decide +kernel
theorem d_Mo_draw_153 : decode b_Mo_draw 153 = .ok (.aload_n 0, 1) := by decide +kernel
theorem d_Mo_draw_154 : decode b_Mo_draw 154 = .ok (.getfield 83, 3) := by decide +kernel
theorem d_Mo_draw_157 : decode b_Mo_draw 157 = .ok (.if_icmp .ge 98, 3) := by decide +kernel
theorem d_Mo_draw_160 : decode b_Mo_draw 160 = .ok (.aload_n 0, 1) := by decide +kernel
theorem d_Mo_draw_161 : decode b_Mo_draw 161 = .ok (.getfield 24, 3) := by decide +kernel
theorem d_Mo_draw_164 : decode b_Mo_draw 164 = .ok (.iload_n 3, 1) := by decide +kernel
theorem d_Mo_draw_165 : decode b_Mo_draw 165 = .ok (.aload_n 0, 1) := by decide +kernel
theorem d_Mo_draw_166 : decode b_Mo_draw 166 = .ok (.getfield 39, 3) := by decide +kernel
theorem d_Mo_draw_169 : decode b_Mo_draw 169 = .ok (.iload_n 2, 1) := by decide +kernel
theorem d_Mo_draw_170 : decode b_Mo_draw 170 = .ok (.iaload, 1) := by decide +kernel
theorem d_Mo_draw_171 : decode b_Mo_draw 171 = .ok (.iastore, 1) := by decide +kernel
theorem d_Mo_draw_172 : decode b_Mo_draw 172 = .ok (.aload_n 0, 1) := by decide +kernel
theorem d_Mo_draw_173 : decode b_Mo_draw 173 = .ok (.getfield 27, 3) := by decide +kernel
theorem d_Mo_draw_176 : decode b_Mo_draw 176 = .ok (.iload_n 3, 1) := by decide +kernel
theorem d_Mo_draw_177 : decode b_Mo_draw 177 = .ok (.aload_n 0, 1) := by decide +kernel
theorem d_Mo_draw_178 : decode b_Mo_draw 178 = .ok (.getfield 39, 3) := by decide +kernel
theorem d_Mo_draw_181 : decode b_Mo_draw 181 = .ok (.iload_n 2, 1) := by decide +kernel
theorem d_Mo_draw_182 : decode b_Mo_draw 182 = .ok (.iconst 1, 1) := by decide +kernel
theorem d_Mo_draw_183 : decode b_Mo_draw 183 = .ok (.iadd, 1) := by decide +kernel
theorem d_Mo_draw_184 : decode b_Mo_draw 184 = .ok (.iaload, 1) := by decide +kernel
theorem d_Mo_draw_185 : decode b_Mo_draw 185 = .ok (.iastore, 1) := by decide +kernel
theorem d_Mo_draw_186 : decode b_Mo_draw 186 = .ok (.aload_n 0, 1) := by decide +kernel
theorem d_Mo_draw_187 : decode b_Mo_draw 187 = .ok (.getfield 30, 3) := by decide +kernel
theorem d_Mo_draw_190 : decode b_Mo_draw 190 = .ok (.iload_n 3, 1) := by decide +kernel
theorem d_Mo_draw_191 : decode b_Mo_draw 191 = .ok (.aload_n 0, 1) := by decide +kernel
theorem d_Mo_draw_192 : decode b_Mo_draw 192 = .ok (.getfield 39, 3) := by decide +kernel
theorem d_Mo_draw_195 : decode b_Mo_draw 195 = .ok (.iload_n 2, 1) := by decide +kernel
theorem d_Mo_draw_196 : decode b_Mo_draw 196 = .ok (.iconst 2, 1) := by decide +kernel
theorem d_Mo_draw_197 : decode b_Mo_draw 197 = .ok (.iadd, 1) := by decide +kernel
theorem d_Mo_draw_198 : decode b_Mo_draw 198 = .ok (.iaload, 1) := by decide +kernel
theorem d_Mo_draw_199 : decode b_Mo_draw 199 = .ok (.iastore, 1) := by decide +kernel
theorem d_Mo_draw_200 : decode b_Mo_draw 200 = .ok (.aload_n 0, 1) := by decide +kernel
theorem d_Mo_draw_201 : decode b_Mo_draw 201 = .ok (.getfield 33, 3) := by decide +kernel
theorem d_Mo_draw_204 : decode b_Mo_draw 204 = .ok (.iload_n 3, 1) := by decide +kernel
theorem d_Mo_draw_205 : decode b_Mo_draw 205 = .ok (.aload_n 0, 1) := by decide +kernel
theorem d_Mo_draw_206 : decode b_Mo_draw 206 = .ok (.getfield 39, 3) := by decide +kernel
theorem d_Mo_draw_209 : decode b_Mo_draw 209 = .ok (.iload_n 2, 1) := by decide +kernel
theorem d_Mo_draw_210 : decode b_Mo_draw 210 = .ok (.iconst 3, 1) := by decide +kernel
theorem d_Mo_draw_211 : decode b_Mo_draw 211 = .ok (.iadd, 1) := by decide +kernel
theorem d_Mo_draw_212 : decode b_Mo_draw 212 = .ok (.iaload, 1) := by decide +kernel
theorem d_Mo_draw_213 : decode b_Mo_draw 213 = .ok (.iconst 1, 1) := by decide +kernel
theorem d_Mo_draw_214 : decode b_Mo_draw 214 = .ok (.if_icmp .ne 7, 3) := by decide +kernel
theorem d_Mo_draw_217 : decode b_Mo_draw 217 = .ok (.iconst 1, 1) := by decide +kernel
theorem d_Mo_draw_218 : decode b_Mo_draw 218 = .ok (.goto 4, 3) := by decide +kernel
theorem d_Mo_draw_221 : decode b_Mo_draw 221 = .ok (.iconst 0, 1) := by decide +kernel
theorem d_Mo_draw_222 : decode b_Mo_draw 222 = .ok (.bastore, 1) := by decide +kernel
theorem d_Mo_draw_223 : decode b_Mo_draw 223 = .ok (.aload_n 0, 1) := by decide +kernel
theorem d_Mo_draw_224 : decode b_Mo_draw 224 = .ok (.getfield 36, 3) := by decide +kernel
theorem d_Mo_draw_227 : decode b_Mo_draw 227 = .ok (.iload_n 3, 1) := by decide +kernel
theorem d_Mo_draw_228 : decode b_Mo_draw 228 = .ok (.aload_n 0, 1) := by decide +kernel
theorem d_Mo_draw_229 : decode b_Mo_draw 229 = .ok (.getfield 39, 3) := by decide +kernel
theorem d_Mo_draw_232 : decode b_Mo_draw 232 = .ok (.iload_n 2, 1) := by decide +kernel
theorem d_Mo_draw_233 : decode b_Mo_draw 233 = .ok (.iconst 4, 1) := by decide +kernel
theorem d_Mo_draw_234 : decode b_Mo_draw 234 = .ok (.iadd, 1) := by decide +kernel
theorem d_Mo_draw_235 : decode b_Mo_draw 235 = .ok (.iaload, 1) := by decide +kernel
theorem d_Mo_draw_236 : decode b_Mo_draw 236 = .ok (.iconst 1, 1) := by decide +kernel
theorem d_Mo_draw_237 : decode b_Mo_draw 237 = .ok (.if_icmp .ne 7, 3) := by decide +kernel
theorem d_Mo_draw_240 : decode b_Mo_draw 240 = .ok (.iconst 1, 1) := by decide +kernel
theorem d_Mo_draw_241 : decode b_Mo_draw 241 = .ok (.goto 4, 3) := by decide +kernel
theorem d_Mo_draw_244 : decode b_Mo_draw 244 = .ok (.iconst 0, 1) := by decide +kernel
theorem d_Mo_draw_245 : decode b_Mo_draw 245 = .ok (.bastore, 1) := by decide +kernel
theorem d_Mo_draw_246 : decode b_Mo_draw 246 = .ok (.iinc 2 5, 3) := by decide +kernel
theorem d_Mo_draw_249 : decode b_Mo_draw 249 = .ok (.iinc 3 1, 3) := by decide +kernel
theorem d_Mo_draw_252 : decode b_Mo_draw 252 = .ok (.goto (-100), 3) := by decide +kernel
theorem d_Mo_draw_255 : decode b_Mo_draw 255 = .ok (.aload_n 0, 1) := by decide +kernel
theorem d_Mo_draw_256 : decode b_Mo_draw 256 = .ok (.aload_n 0, 1) := by decide +kernel
theorem d_Mo_draw_257 : decode b_Mo_draw 257 = .ok (.getfield 77, 3) := by decide +kernel
theorem d_Mo_draw_260 : decode b_Mo_draw 260 = .ok (.aload_n 0, 1) := by decide +kernel
theorem d_Mo_draw_261 : decode b_Mo_draw 261 = .ok (.getfield 80, 3) := by decide +kernel
theorem d_Mo_draw_264 : decode b_Mo_draw 264 = .ok (.iadd, 1) := by decide +kernel
theorem d_Mo_draw_265 : decode b_Mo_draw 265 = .ok (.aload_n 0, 1) := by decide +kernel
theorem d_Mo_draw_266 : decode b_Mo_draw 266 = .ok (.getfield 83, 3) := by decide +kernel
theorem d_Mo_draw_269 : decode b_Mo_draw 269 = .ok (.iadd, 1) := by decide +kernel
theorem d_Mo_draw_270 : decode b_Mo_draw 270 = .ok (.putfield 86, 3) := by decide +kernel
theorem d_Mo_draw_273 : decode b_Mo_draw 273 = .ok (.iconst 0, 1) := by decide +kernel
theorem d_Mo_draw_274 : decode b_Mo_draw 274 = .ok (.istore_n 3, 1) := by decide +kernel
theorem d_Mo_draw_275 : decode b_Mo_draw 275 = .ok (.iload_n 3, 1) := by decide +kernel
theorem d_Mo_draw_276 : decode b_Mo_draw 276 = .ok (.aload_n 0, 1) := by decide +kernel
theorem d_Mo_draw_277 : decode b_Mo_draw 277 = .ok (.getfield 86, 3) := by decide +kernel
theorem d_Mo_draw_280 : decode b_Mo_draw 280 = .ok (.if_icmp .ge 16, 3) := by decide +kernel
theorem d_Mo_draw_283 : decode b_Mo_draw 283 = .ok (.aload_n 0, 1) := by decide +kernel
theorem d_Mo_draw_284 : decode b_Mo_draw 284 = .ok (.getfield 13, 3) := by decide +kernel
theorem d_Mo_draw_287 : decode b_Mo_draw 287 = .ok (.iload_n 3, 1) := by decide +kernel
theorem d_Mo_draw_288 : decode b_Mo_draw 288 = .ok (.iconst 0, 1) := by decide +kernel
theorem d_Mo_draw_289 : decode b_Mo_draw 289 = .ok (.bastore, 1) := by decide +kernel
theorem d_Mo_draw_290 : decode b_Mo_draw 290 = .ok (.iinc 3 1, 3) := by decide +kernel
theorem d_Mo_draw_293 : decode b_Mo_draw 293 = .ok (.goto (-18), 3) := by decide +kernel
theorem d_Mo_draw_296 : decode b_Mo_draw 296 = .ok (.aload_n 0, 1) := by decide +kernel
theorem d_Mo_draw_297 : decode b_Mo_draw 297 = .ok (.getfield 86, 3) := by decide +kernel
theorem d_Mo_draw_300 : decode b_Mo_draw 300 = .ok (.ireturn, 1) := by decide +kernel
theorem d_Mo_in_0 : decode b_Mo_in 0 = .ok (.iload_n 0, 1) := by decide +kernel
theorem d_Mo_in_1 : decode b_Mo_in 1 = .ok (.iload_n 1, 1) := by decide +kernel
theorem d_Mo_in_2 : decode b_Mo_in 2 = .ok (.if_icmp .lt 12, 3) := by decide +kernel
theorem d_Mo_in_5 : decode b_Mo_in 5 = .ok (.iload_n 0, 1) := by decide +kernel
theorem d_Mo_in_6 : decode b_Mo_in 6 = .ok (.iload_n 2, 1) := by decide +kernel
theorem d_Mo_in_7 : decode b_Mo_in 7 = .ok (.if_icmp .gt 7, 3) := by decide +kernel
theorem d_Mo_in_10 : decode b_Mo_in 10 = .ok (.iconst 1, 1) := by decide +kernel
theorem d_Mo_in_11 : decode b_Mo_in 11 = .ok (.goto 4, 3) := by decide +kernel
theorem d_Mo_in_14 : decode b_Mo_in 14 = .ok (.iconst 0, 1) := by decide +kernel
theorem d_Mo_in_15 : decode b_Mo_in 15 = .ok (.ireturn, 1) := by decide +kernel
theorem d_Mo_drawRow_0 : decode b_Mo_drawRow 0 = .ok (.aload_n 0, 1) := by decide +kernel
theorem d_Mo_drawRow_1 : decode b_Mo_drawRow 1 = .ok (.iconst 0, 1) := by decide +kernel
theorem d_Mo_drawRow_2 : decode b_Mo_drawRow 2 = .ok (.putfield 59, 3) := by decide +kernel
theorem d_Mo_drawRow_5 : decode b_Mo_drawRow 5 = .ok (.iconst 1, 1) := by decide +kernel
theorem d_Mo_drawRow_6 : decode b_Mo_drawRow 6 = .ok (.aload_n 0, 1) := by decide +kernel
theorem d_Mo_drawRow_7 : decode b_Mo_drawRow 7 = .ok (.iload_n 1, 1) := by decide +kernel
theorem d_Mo_drawRow_8 : decode b_Mo_drawRow 8 = .ok (.iconst 1, 1) := by decide +kernel
theorem d_Mo_drawRow_9 : decode b_Mo_drawRow 9 = .ok (.iadd, 1) := by decide +kernel
theorem d_Mo_drawRow_10 : decode b_Mo_drawRow 10 = .ok (.invokevirtual 62, 3) := by decide +kernel
theorem d_Mo_drawRow_13 : decode b_Mo_drawRow 13 = .ok (.iadd, 1) := by decide +kernel
theorem d_Mo_drawRow_14 : decode b_Mo_drawRow 14 = .ok (.istore_n 2, 1) := by decide +kernel
theorem d_Mo_drawRow_15 : decode b_Mo_drawRow 15 = .ok (.aload_n 0, 1) := by decide +kernel
theorem d_Mo_drawRow_16 : decode b_Mo_drawRow 16 = .ok (.iload_n 2, 1) := by decide +kernel
theorem d_Mo_drawRow_17 : decode b_Mo_drawRow 17 = .ok (.invokevirtual 66, 3) := by decide +kernel
theorem d_Mo_drawRow_20 : decode b_Mo_drawRow 20 = .ok (.iconst 0, 1) := by decide +kernel
theorem d_Mo_drawRow_21 : decode b_Mo_drawRow 21 = .ok (.istore_n 3, 1) := by decide +kernel
theorem d_Mo_drawRow_22 : decode b_Mo_drawRow 22 = .ok (.iload_n 3, 1) := by decide +kernel
theorem d_Mo_drawRow_23 : decode b_Mo_drawRow 23 = .ok (.iload_n 2, 1) := by decide +kernel
theorem d_Mo_drawRow_24 : decode b_Mo_drawRow 24 = .ok (.if_icmp .ge 21, 3) := by decide +kernel
theorem d_Mo_drawRow_27 : decode b_Mo_drawRow 27 = .ok (.aload_n 0, 1) := by decide +kernel
theorem d_Mo_drawRow_28 : decode b_Mo_drawRow 28 = .ok (.iconst 4, 1) := by decide +kernel
theorem d_Mo_drawRow_29 : decode b_Mo_drawRow 29 = .ok (.aload_n 0, 1) := by decide +kernel
theorem d_Mo_drawRow_30 : decode b_Mo_drawRow 30 = .ok (.bipush 20, 2) := by decide +kernel
theorem d_Mo_drawRow_32 : decode b_Mo_drawRow 32 = .ok (.invokevirtual 62, 3) := by decide +kernel
theorem d_Mo_drawRow_35 : decode b_Mo_drawRow 35 = .ok (.iadd, 1) := by decide +kernel
theorem d_Mo_drawRow_36 : decode b_Mo_drawRow 36 = .ok (.invokevirtual 66, 3) := by decide +kernel
theorem d_Mo_drawRow_39 : decode b_Mo_drawRow 39 = .ok (.iinc 3 1, 3) := by decide +kernel
theorem d_Mo_drawRow_42 : decode b_Mo_drawRow 42 = .ok (.goto (-20), 3) := by decide +kernel
theorem d_Mo_drawRow_45 : decode b_Mo_drawRow 45 = .ok (.iconst 1, 1) := by decide +kernel
theorem d_Mo_drawRow_46 : decode b_Mo_drawRow 46 = .ok (.aload_n 0, 1) := by decide +kernel
theorem d_Mo_drawRow_47 : decode b_Mo_drawRow 47 = .ok (.iload_n 1, 1) := by decide +kernel
theorem d_Mo_drawRow_48 : decode b_Mo_drawRow 48 = .ok (.iconst 1, 1) := by decide +kernel
theorem d_Mo_drawRow_49 : decode b_Mo_drawRow 49 = .ok (.iadd, 1) := by decide +kernel
theorem d_Mo_drawRow_50 : decode b_Mo_drawRow 50 = .ok (.invokevirtual 62, 3) := by decide +kernel
theorem d_Mo_drawRow_53 : decode b_Mo_drawRow 53 = .ok (.iadd, 1) := by decide +kernel
theorem d_Mo_drawRow_54 : decode b_Mo_drawRow 54 = .ok (.istore_n 3, 1) := by decide +kernel
theorem d_Mo_drawRow_55 : decode b_Mo_drawRow 55 = .ok (.aload_n 0, 1) := by decide +kernel
theorem d_Mo_drawRow_56 : decode b_Mo_drawRow 56 = .ok (.iload_n 3, 1) := by decide +kernel
theorem d_Mo_drawRow_57 : decode b_Mo_drawRow 57 = .ok (.invokevirtual 66, 3) := by decide +kernel
theorem d_Mo_drawRow_60 : decode b_Mo_drawRow 60 = .ok (.iconst 0, 1) := by decide +kernel
theorem d_Mo_drawRow_61 : decode b_Mo_drawRow 61 = .ok (.istore 4, 2) := by decide +kernel
theorem d_Mo_drawRow_63 : decode b_Mo_drawRow 63 = .ok (.iload 4, 2) := by decide +kernel
theorem d_Mo_drawRow_65 : decode b_Mo_drawRow 65 = .ok (.iload_n 3, 1) := by decide +kernel
theorem d_Mo_drawRow_66 : decode b_Mo_drawRow 66 = .ok (.if_icmp .ge 21, 3) := by decide +kernel
theorem d_Mo_drawRow_69 : decode b_Mo_drawRow 69 = .ok (.aload_n 0, 1) := by decide +kernel
theorem d_Mo_drawRow_70 : decode b_Mo_drawRow 70 = .ok (.iconst 1, 1) := by decide +kernel
theorem d_Mo_drawRow_71 : decode b_Mo_drawRow 71 = .ok (.aload_n 0, 1) := by decide +kernel
theorem d_Mo_drawRow_72 : decode b_Mo_drawRow 72 = .ok (.bipush 6, 2) := by decide +kernel
theorem d_Mo_drawRow_74 : decode b_Mo_drawRow 74 = .ok (.invokevirtual 62, 3) := by decide +kernel
theorem d_Mo_drawRow_77 : decode b_Mo_drawRow 77 = .ok (.iadd, 1) := by decide +kernel
theorem d_Mo_drawRow_78 : decode b_Mo_drawRow 78 = .ok (.invokevirtual 66, 3) := by decide +kernel
theorem d_Mo_drawRow_81 : decode b_Mo_drawRow 81 = .ok (.iinc 4 1, 3) := by decide +kernel
theorem d_Mo_drawRow_84 : decode b_Mo_drawRow 84 = .ok (.goto (-21), 3) := by decide +kernel
theorem d_Mo_drawRow_87 : decode b_Mo_drawRow 87 = .ok (.iconst 3, 1) := by decide +kernel
theorem d_Mo_drawRow_88 : decode b_Mo_drawRow 88 = .ok (.iload_n 1, 1) := by decide +kernel
theorem d_Mo_drawRow_89 : decode b_Mo_drawRow 89 = .ok (.imul, 1) := by decide +kernel
theorem d_Mo_drawRow_90 : decode b_Mo_drawRow 90 = .ok (.aload_n 0, 1) := by decide +kernel
theorem d_Mo_drawRow_91 : decode b_Mo_drawRow 91 = .ok (.iconst 4, 1) := by decide +kernel
theorem d_Mo_drawRow_92 : decode b_Mo_drawRow 92 = .ok (.invokevirtual 62, 3) := by decide +kernel
theorem d_Mo_drawRow_95 : decode b_Mo_drawRow 95 = .ok (.iadd, 1) := by decide +kernel
theorem d_Mo_drawRow_96 : decode b_Mo_drawRow 96 = .ok (.istore 4, 2) := by decide +kernel
theorem d_Mo_drawRow_98 : decode b_Mo_drawRow 98 = .ok (.aload_n 0, 1) := by decide +kernel
theorem d_Mo_drawRow_99 : decode b_Mo_drawRow 99 = .ok (.iload 4, 2) := by decide +kernel
theorem d_Mo_drawRow_101 : decode b_Mo_drawRow 101 = .ok (.invokevirtual 66, 3) := by decide +kernel
theorem d_Mo_drawRow_104 : decode b_Mo_drawRow 104 = .ok (.iconst 0, 1) := by decide +kernel
theorem d_Mo_drawRow_105 : decode b_Mo_drawRow 105 = .ok (.istore 5, 2) := by decide +kernel
theorem d_Mo_drawRow_107 : decode b_Mo_drawRow 107 = .ok (.iload 5, 2) := by decide +kernel
theorem d_Mo_drawRow_109 : decode b_Mo_drawRow 109 = .ok (.iload 4, 2) := by decide +kernel
theorem d_Mo_drawRow_111 : decode b_Mo_drawRow 111 = .ok (.if_icmp .ge 74, 3) := by decide +kernel
theorem d_Mo_drawRow_114 : decode b_Mo_drawRow 114 = .ok (.aload_n 0, 1) := by decide +kernel
theorem d_Mo_drawRow_115 : decode b_Mo_drawRow 115 = .ok (.aload_n 0, 1) := by decide +kernel
theorem d_Mo_drawRow_116 : decode b_Mo_drawRow 116 = .ok (.iload_n 2, 1) := by decide +kernel
theorem d_Mo_drawRow_117 : decode b_Mo_drawRow 117 = .ok (.invokevirtual 62, 3) := by decide +kernel
theorem d_Mo_drawRow_120 : decode b_Mo_drawRow 120 = .ok (.invokevirtual 66, 3) := by decide +kernel
theorem d_Mo_drawRow_123 : decode b_Mo_drawRow 123 = .ok (.aload_n 0, 1) := by decide +kernel
theorem d_Mo_drawRow_124 : decode b_Mo_drawRow 124 = .ok (.aload_n 0, 1) := by decide +kernel
theorem d_Mo_drawRow_125 : decode b_Mo_drawRow 125 = .ok (.iload_n 3, 1) := by decide +kernel
theorem d_Mo_drawRow_126 : decode b_Mo_drawRow 126 = .ok (.invokevirtual 62, 3) := by decide +kernel
theorem d_Mo_drawRow_129 : decode b_Mo_drawRow 129 = .ok (.invokevirtual 66, 3) := by decide +kernel
theorem d_Mo_drawRow_132 : decode b_Mo_drawRow 132 = .ok (.aload_n 0, 1) := by decide +kernel
theorem d_Mo_drawRow_133 : decode b_Mo_drawRow 133 = .ok (.iconst 1, 1) := by decide +kernel
theorem d_Mo_drawRow_134 : decode b_Mo_drawRow 134 = .ok (.aload_n 0, 1) := by decide +kernel
theorem d_Mo_drawRow_135 : decode b_Mo_drawRow 135 = .ok (.iconst 5, 1) := by decide +kernel
theorem d_Mo_drawRow_136 : decode b_Mo_drawRow 136 = .ok (.invokevirtual 62, 3) := by decide +kernel
theorem d_Mo_drawRow_139 : decode b_Mo_drawRow 139 = .ok (.iadd, 1) := by decide +kernel
theorem d_Mo_drawRow_140 : decode b_Mo_drawRow 140 = .ok (.invokevirtual 66, 3) := by decide +kernel
theorem d_Mo_drawRow_143 : decode b_Mo_drawRow 143 = .ok (.aload_n 0, 1) := by decide +kernel
theorem d_Mo_drawRow_144 : decode b_Mo_drawRow 144 = .ok (.aload_n 0, 1) := by decide +kernel
theorem d_Mo_drawRow_145 : decode b_Mo_drawRow 145 = .ok (.iconst 3, 1) := by decide +kernel
theorem d_Mo_drawRow_146 : decode b_Mo_drawRow 146 = .ok (.invokevirtual 62, 3) := by decide +kernel
theorem d_Mo_drawRow_149 : decode b_Mo_drawRow 149 = .ok (.iconst 2, 1) := by decide +kernel
theorem d_Mo_drawRow_150 : decode b_Mo_drawRow 150 = .ok (.if_icmp .ne 7, 3) := by decide +kernel
theorem d_Mo_drawRow_153 : decode b_Mo_drawRow 153 = .ok (.iconst 1, 1) := by decide +kernel
theorem d_Mo_drawRow_154 : decode b_Mo_drawRow 154 = .ok (.goto 4, 3) := by decide +kernel
theorem d_Mo_drawRow_157 : decode b_Mo_drawRow 157 = .ok (.iconst 0, 1) := by decide +kernel
theorem d_Mo_drawRow_158 : decode b_Mo_drawRow 158 = .ok (.invokevirtual 66, 3) := by decide +kernel
theorem d_Mo_drawRow_161 : decode b_Mo_drawRow 161 = .ok (.aload_n 0, 1) := by decide +kernel
theorem d_Mo_drawRow_162 : decode b_Mo_drawRow 162 = .ok (.aload_n 0, 1) := by decide +kernel
theorem d_Mo_drawRow_163 : decode b_Mo_drawRow 163 = .ok (.bipush 6, 2) := by decide +kernel
theorem d_Mo_drawRow_165 : decode b_Mo_drawRow 165 = .ok (.invokevirtual 62, 3) := by decide +kernel
theorem d_Mo_drawRow_168 : decode b_Mo_drawRow 168 = .ok (.ifCond .ne 7, 3) := by decide +kernel
theorem d_Mo_drawRow_171 : decode b_Mo_drawRow 171 = .ok (.iconst 1, 1) := by decide +kernel
theorem d_Mo_drawRow_172 : decode b_Mo_drawRow 172 = .ok (.goto 4, 3) := by decide +kernel
theorem d_Mo_drawRow_175 : decode b_Mo_drawRow 175 = .ok (.iconst 0, 1) := by decide +kernel
theorem d_Mo_drawRow_176 : decode b_Mo_drawRow 176 = .ok (.invokevirtual 66, 3) := by decide +kernel
theorem d_Mo_drawRow_179 : decode b_Mo_drawRow 179 = .ok (.iinc 5 1, 3) := by decide +kernel
theorem d_Mo_drawRow_182 : decode b_Mo_drawRow 182 = .ok (.goto (-75), 3) := by decide +kernel
theorem d_Mo_drawRow_185 : decode b_Mo_drawRow 185 = .ok (.return_, 1) := by decide +kernel
theorem d_Mo_below_0 : decode b_Mo_below 0 = .ok (.aload_n 0, 1) := by decide +kernel
theorem d_Mo_below_1 : decode b_Mo_below 1 = .ok (.aload_n 0, 1) := by decide +kernel
theorem d_Mo_below_2 : decode b_Mo_below 2 = .ok (.getfield 48, 3) := by decide +kernel
theorem d_Mo_below_5 : decode b_Mo_below 5 = .ok (.ldc2_w 55, 3) := by decide +kernel
theorem d_Mo_below_8 : decode b_Mo_below 8 = .ok (.lmul, 1) := by decide +kernel
theorem d_Mo_below_9 : decode b_Mo_below 9 = .ok (.ldc2_w 57, 3) := by decide +kernel
theorem d_Mo_below_12 : decode b_Mo_below 12 = .ok (.ladd, 1) := by decide +kernel
theorem d_Mo_below_13 : decode b_Mo_below 13 = .ok (.putfield 48, 3) := by decide +kernel
theorem d_Mo_below_16 : decode b_Mo_below 16 = .ok (.aload_n 0, 1) := by decide +kernel
theorem d_Mo_below_17 : decode b_Mo_below 17 = .ok (.getfield 48, 3) := by decide +kernel
theorem d_Mo_below_20 : decode b_Mo_below 20 = .ok (.bipush 33, 2) := by decide +kernel
theorem d_Mo_below_22 : decode b_Mo_below 22 = .ok (.lushr, 1) := by decide +kernel
theorem d_Mo_below_23 : decode b_Mo_below 23 = .ok (.iload_n 1, 1) := by decide +kernel
theorem d_Mo_below_24 : decode b_Mo_below 24 = .ok (.i2l, 1) := by decide +kernel
theorem d_Mo_below_25 : decode b_Mo_below 25 = .ok (.lrem, 1) := by decide +kernel
theorem d_Mo_below_26 : decode b_Mo_below 26 = .ok (.l2i, 1) := by decide +kernel
theorem d_Mo_below_27 : decode b_Mo_below 27 = .ok (.ireturn, 1) := by decide +kernel
theorem d_Mo_put_0 : decode b_Mo_put 0 = .ok (.aload_n 0, 1) := by decide +kernel
theorem d_Mo_put_1 : decode b_Mo_put 1 = .ok (.getfield 39, 3) := by decide +kernel
theorem d_Mo_put_4 : decode b_Mo_put 4 = .ok (.aload_n 0, 1) := by decide +kernel
theorem d_Mo_put_5 : decode b_Mo_put 5 = .ok (.getfield 59, 3) := by decide +kernel
theorem d_Mo_put_8 : decode b_Mo_put 8 = .ok (.iload_n 1, 1) := by decide +kernel
theorem d_Mo_put_9 : decode b_Mo_put 9 = .ok (.iastore, 1) := by decide +kernel
theorem d_Mo_put_10 : decode b_Mo_put 10 = .ok (.aload_n 0, 1) := by decide +kernel
theorem d_Mo_put_11 : decode b_Mo_put 11 = .ok (.dup, 1) := by decide +kernel
theorem d_Mo_put_12 : decode b_Mo_put 12 = .ok (.getfield 59, 3) := by decide +kernel
theorem d_Mo_put_15 : decode b_Mo_put 15 = .ok (.iconst 1, 1) := by decide +kernel
theorem d_Mo_put_16 : decode b_Mo_put 16 = .ok (.iadd, 1) := by decide +kernel
theorem d_Mo_put_17 : decode b_Mo_put 17 = .ok (.putfield 59, 3) := by decide +kernel
theorem d_Mo_put_20 : decode b_Mo_put 20 = .ok (.return_, 1) := by decide +kernel
theorem d_Mo_again_0 : decode b_Mo_again 0 = .ok (.aload_n 0, 1) := by decide +kernel
theorem d_Mo_again_1 : decode b_Mo_again 1 = .ok (.iconst 0, 1) := by decide +kernel
theorem d_Mo_again_2 : decode b_Mo_again 2 = .ok (.putfield 52, 3) := by decide +kernel
theorem d_Mo_again_5 : decode b_Mo_again 5 = .ok (.aload_n 0, 1) := by decide +kernel
theorem d_Mo_again_6 : decode b_Mo_again 6 = .ok (.lload_n 1, 1) := by decide +kernel
theorem d_Mo_again_7 : decode b_Mo_again 7 = .ok (.putfield 48, 3) := by decide +kernel
theorem d_Mo_again_10 : decode b_Mo_again 10 = .ok (.return_, 1) := by decide +kernel
theorem d_Mo_part_0 : decode b_Mo_part 0 = .ok (.aload_n 0, 1) := by decide +kernel
theorem d_Mo_part_1 : decode b_Mo_part 1 = .ok (.aload_n 0, 1) := by decide +kernel
theorem d_Mo_part_2 : decode b_Mo_part 2 = .ok (.iload_n 1, 1) := by decide +kernel
theorem d_Mo_part_3 : decode b_Mo_part 3 = .ok (.invokevirtual 89, 3) := by decide +kernel
theorem d_Mo_part_6 : decode b_Mo_part 6 = .ok (.ifCond .ne 7, 3) := by decide +kernel
theorem d_Mo_part_9 : decode b_Mo_part 9 = .ok (.iconst 1, 1) := by decide +kernel
theorem d_Mo_part_10 : decode b_Mo_part 10 = .ok (.goto 18, 3) := by decide +kernel
theorem d_Mo_part_13 : decode b_Mo_part 13 = .ok (.iload_n 2, 1) := by decide +kernel
theorem d_Mo_part_14 : decode b_Mo_part 14 = .ok (.iconst 0, 1) := by decide +kernel
theorem d_Mo_part_15 : decode b_Mo_part 15 = .ok (.bipush 7, 2) := by decide +kernel
theorem d_Mo_part_17 : decode b_Mo_part 17 = .ok (.invokestatic 70, 3) := by decide +kernel
theorem d_Mo_part_20 : decode b_Mo_part 20 = .ok (.ifCond .ne 7, 3) := by decide +kernel
theorem d_Mo_part_23 : decode b_Mo_part 23 = .ok (.iconst 2, 1) := by decide +kernel
theorem d_Mo_part_24 : decode b_Mo_part 24 = .ok (.goto 4, 3) := by decide +kernel
theorem d_Mo_part_27 : decode b_Mo_part 27 = .ok (.iconst 0, 1) := by decide +kernel
theorem d_Mo_part_28 : decode b_Mo_part 28 = .ok (.putfield 52, 3) := by decide +kernel
theorem d_Mo_part_31 : decode b_Mo_part 31 = .ok (.aload_n 0, 1) := by decide +kernel
theorem d_Mo_part_32 : decode b_Mo_part 32 = .ok (.getfield 52, 3) := by decide +kernel
theorem d_Mo_part_35 : decode b_Mo_part 35 = .ok (.ifCond .le 5, 3) := by decide +kernel
theorem d_Mo_part_38 : decode b_Mo_part 38 = .ok (.iconst 0, 1) := by decide +kernel
theorem d_Mo_part_39 : decode b_Mo_part 39 = .ok (.ireturn, 1) := by decide +kernel
theorem d_Mo_part_40 : decode b_Mo_part 40 = .ok (.aload_n 0, 1) := by decide +kernel
theorem d_Mo_part_41 : decode b_Mo_part 41 = .ok (.iload_n 1, 1) := by decide +kernel
theorem d_Mo_part_42 : decode b_Mo_part 42 = .ok (.invokevirtual 93, 3) := by decide +kernel
theorem d_Mo_part_45 : decode b_Mo_part 45 = .ok (.istore_n 3, 1) := by decide +kernel
theorem d_Mo_part_46 : decode b_Mo_part 46 = .ok (.aload_n 0, 1) := by decide +kernel
theorem d_Mo_part_47 : decode b_Mo_part 47 = .ok (.iload_n 1, 1) := by decide +kernel
theorem d_Mo_part_48 : decode b_Mo_part 48 = .ok (.invokevirtual 96, 3) := by decide +kernel
theorem d_Mo_part_51 : decode b_Mo_part 51 = .ok (.istore 4, 2) := by decide +kernel
theorem d_Mo_part_53 : decode b_Mo_part 53 = .ok (.iload_n 2, 1) := by decide +kernel
theorem d_Mo_part_54 : decode b_Mo_part 54 = .ok (.ifCond .ne 5, 3) := by decide +kernel
theorem d_Mo_part_57 : decode b_Mo_part 57 = .ok (.iload_n 3, 1) := by decide +kernel
theorem d_Mo_part_58 : decode b_Mo_part 58 = .ok (.ireturn, 1) := by decide +kernel
theorem d_Mo_part_59 : decode b_Mo_part 59 = .ok (.iload_n 2, 1) := by decide +kernel
theorem d_Mo_part_60 : decode b_Mo_part 60 = .ok (.iconst 1, 1) := by decide +kernel
theorem d_Mo_part_61 : decode b_Mo_part 61 = .ok (.if_icmp .ne 6, 3) := by decide +kernel
theorem d_Mo_part_64 : decode b_Mo_part 64 = .ok (.iload 4, 2) := by decide +kernel
theorem d_Mo_part_66 : decode b_Mo_part 66 = .ok (.ireturn, 1) := by decide +kernel
theorem d_Mo_part_67 : decode b_Mo_part 67 = .ok (.iload_n 2, 1) := by decide +kernel
theorem d_Mo_part_68 : decode b_Mo_part 68 = .ok (.bipush 7, 2) := by decide +kernel
theorem d_Mo_part_70 : decode b_Mo_part 70 = .ok (.if_icmp .ne 18, 3) := by decide +kernel
theorem d_Mo_part_73 : decode b_Mo_part 73 = .ok (.aload_n 0, 1) := by decide +kernel
theorem d_Mo_part_74 : decode b_Mo_part 74 = .ok (.getfield 13, 3) := by decide +kernel
theorem d_Mo_part_77 : decode b_Mo_part 77 = .ok (.iload_n 1, 1) := by decide +kernel
theorem d_Mo_part_78 : decode b_Mo_part 78 = .ok (.baload, 1) := by decide +kernel
theorem d_Mo_part_79 : decode b_Mo_part 79 = .ok (.ifCond .eq 7, 3) := by decide +kernel
theorem d_Mo_part_82 : decode b_Mo_part 82 = .ok (.iconst 0, 1) := by decide +kernel
theorem d_Mo_part_83 : decode b_Mo_part 83 = .ok (.goto 4, 3) := by decide +kernel
theorem d_Mo_part_86 : decode b_Mo_part 86 = .ok (.iconst 1, 1) := by decide +kernel
theorem d_Mo_part_87 : decode b_Mo_part 87 = .ok (.ireturn, 1) := by decide +kernel
theorem d_Mo_part_88 : decode b_Mo_part 88 = .ok (.iload_n 2, 1) := by decide +kernel
theorem d_Mo_part_89 : decode b_Mo_part 89 = .ok (.iconst 2, 1) := by decide +kernel
theorem d_Mo_part_90 : decode b_Mo_part 90 = .ok (.if_icmp .ne 40, 3) := by decide +kernel
theorem d_Mo_part_93 : decode b_Mo_part 93 = .ok (.iload_n 3, 1) := by decide +kernel
theorem d_Mo_part_94 : decode b_Mo_part 94 = .ok (.ifCond .ne 13, 3) := by decide +kernel
theorem d_Mo_part_97 : decode b_Mo_part 97 = .ok (.aload_n 0, 1) := by decide +kernel
theorem d_Mo_part_98 : decode b_Mo_part 98 = .ok (.getfield 17, 3) := by decide +kernel
theorem d_Mo_part_101 : decode b_Mo_part 101 = .ok (.iload 4, 2) := by decide +kernel
theorem d_Mo_part_103 : decode b_Mo_part 103 = .ok (.iaload, 1) := by decide +kernel
theorem d_Mo_part_104 : decode b_Mo_part 104 = .ok (.goto 25, 3) := by decide +kernel
theorem d_Mo_part_107 : decode b_Mo_part 107 = .ok (.iload_n 3, 1) := by decide +kernel
theorem d_Mo_part_108 : decode b_Mo_part 108 = .ok (.iconst 1, 1) := by decide +kernel
theorem d_Mo_part_109 : decode b_Mo_part 109 = .ok (.if_icmp .ne 13, 3) := by decide +kernel
theorem d_Mo_part_112 : decode b_Mo_part 112 = .ok (.aload_n 0, 1) := by decide +kernel
theorem d_Mo_part_113 : decode b_Mo_part 113 = .ok (.getfield 21, 3) := by decide +kernel
theorem d_Mo_part_116 : decode b_Mo_part 116 = .ok (.iload 4, 2) := by decide +kernel
theorem d_Mo_part_118 : decode b_Mo_part 118 = .ok (.iaload, 1) := by decide +kernel
theorem d_Mo_part_119 : decode b_Mo_part 119 = .ok (.goto 10, 3) := by decide +kernel
theorem d_Mo_part_122 : decode b_Mo_part 122 = .ok (.aload_n 0, 1) := by decide +kernel
theorem d_Mo_part_123 : decode b_Mo_part 123 = .ok (.getfield 30, 3) := by decide +kernel
theorem d_Mo_part_126 : decode b_Mo_part 126 = .ok (.iload 4, 2) := by decide +kernel
theorem d_Mo_part_128 : decode b_Mo_part 128 = .ok (.iaload, 1) := by decide +kernel
theorem d_Mo_part_129 : decode b_Mo_part 129 = .ok (.ireturn, 1) := by decide +kernel
theorem d_Mo_part_130 : decode b_Mo_part 130 = .ok (.iload_n 3, 1) := by decide +kernel
theorem d_Mo_part_131 : decode b_Mo_part 131 = .ok (.iconst 2, 1) := by decide +kernel
theorem d_Mo_part_132 : decode b_Mo_part 132 = .ok (.if_icmp .eq 14, 3) := by decide +kernel
theorem d_Mo_part_135 : decode b_Mo_part 135 = .ok (.iload_n 2, 1) := by decide +kernel
theorem d_Mo_part_136 : decode b_Mo_part 136 = .ok (.iconst 5, 1) := by decide +kernel
theorem d_Mo_part_137 : decode b_Mo_part 137 = .ok (.if_icmp .ge 7, 3) := by decide +kernel
theorem d_Mo_part_140 : decode b_Mo_part 140 = .ok (.iconst (-1), 1) := by decide +kernel
theorem d_Mo_part_141 : decode b_Mo_part 141 = .ok (.goto 4, 3) := by decide +kernel
theorem d_Mo_part_144 : decode b_Mo_part 144 = .ok (.iconst 0, 1) := by decide +kernel
theorem d_Mo_part_145 : decode b_Mo_part 145 = .ok (.ireturn, 1) := by decide +kernel
theorem d_Mo_part_146 : decode b_Mo_part 146 = .ok (.iload_n 2, 1) := by decide +kernel
theorem d_Mo_part_147 : decode b_Mo_part 147 = .ok (.iconst 3, 1) := by decide +kernel
theorem d_Mo_part_148 : decode b_Mo_part 148 = .ok (.if_icmp .ne 13, 3) := by decide +kernel
theorem d_Mo_part_151 : decode b_Mo_part 151 = .ok (.aload_n 0, 1) := by decide +kernel
theorem d_Mo_part_152 : decode b_Mo_part 152 = .ok (.getfield 24, 3) := by decide +kernel
theorem d_Mo_part_155 : decode b_Mo_part 155 = .ok (.iload 4, 2) := by decide +kernel
theorem d_Mo_part_157 : decode b_Mo_part 157 = .ok (.iaload, 1) := by decide +kernel
theorem d_Mo_part_158 : decode b_Mo_part 158 = .ok (.goto 51, 3) := by decide +kernel
theorem d_Mo_part_161 : decode b_Mo_part 161 = .ok (.iload_n 2, 1) := by decide +kernel
theorem d_Mo_part_162 : decode b_Mo_part 162 = .ok (.iconst 4, 1) := by decide +kernel
theorem d_Mo_part_163 : decode b_Mo_part 163 = .ok (.if_icmp .ne 13, 3) := by decide +kernel
theorem d_Mo_part_166 : decode b_Mo_part 166 = .ok (.aload_n 0, 1) := by decide +kernel
theorem d_Mo_part_167 : decode b_Mo_part 167 = .ok (.getfield 27, 3) := by decide +kernel
theorem d_Mo_part_170 : decode b_Mo_part 170 = .ok (.iload 4, 2) := by decide +kernel
theorem d_Mo_part_172 : decode b_Mo_part 172 = .ok (.iaload, 1) := by decide +kernel
theorem d_Mo_part_173 : decode b_Mo_part 173 = .ok (.goto 36, 3) := by decide +kernel
theorem d_Mo_part_176 : decode b_Mo_part 176 = .ok (.iload_n 2, 1) := by decide +kernel
theorem d_Mo_part_177 : decode b_Mo_part 177 = .ok (.iconst 5, 1) := by decide +kernel
theorem d_Mo_part_178 : decode b_Mo_part 178 = .ok (.if_icmp .ne 16, 3) := by decide +kernel
theorem d_Mo_part_181 : decode b_Mo_part 181 = .ok (.aload_n 0, 1) := by decide +kernel
theorem d_Mo_part_182 : decode b_Mo_part 182 = .ok (.getfield 33, 3) := by decide +kernel
theorem d_Mo_part_185 : decode b_Mo_part 185 = .ok (.iload 4, 2) := by decide +kernel
theorem d_Mo_part_187 : decode b_Mo_part 187 = .ok (.baload, 1) := by decide +kernel
theorem d_Mo_part_188 : decode b_Mo_part 188 = .ok (.ifCond .eq 20, 3) := by decide +kernel
theorem d_Mo_part_191 : decode b_Mo_part 191 = .ok (.goto 13, 3) := by decide +kernel
theorem d_Mo_part_194 : decode b_Mo_part 194 = .ok (.aload_n 0, 1) := by decide +kernel
theorem d_Mo_part_195 : decode b_Mo_part 195 = .ok (.getfield 36, 3) := by decide +kernel
theorem d_Mo_part_198 : decode b_Mo_part 198 = .ok (.iload 4, 2) := by decide +kernel
theorem d_Mo_part_200 : decode b_Mo_part 200 = .ok (.baload, 1) := by decide +kernel
theorem d_Mo_part_201 : decode b_Mo_part 201 = .ok (.ifCond .eq 7, 3) := by decide +kernel
theorem d_Mo_part_204 : decode b_Mo_part 204 = .ok (.iconst 1, 1) := by decide +kernel
theorem d_Mo_part_205 : decode b_Mo_part 205 = .ok (.goto 4, 3) := by decide +kernel
theorem d_Mo_part_208 : decode b_Mo_part 208 = .ok (.iconst 0, 1) := by decide +kernel
theorem d_Mo_part_209 : decode b_Mo_part 209 = .ok (.ireturn, 1) := by decide +kernel
theorem d_Mo_isPart_0 : decode b_Mo_isPart 0 = .ok (.iload_n 1, 1) := by decide +kernel
theorem d_Mo_isPart_1 : decode b_Mo_isPart 1 = .ok (.iconst 0, 1) := by decide +kernel
theorem d_Mo_isPart_2 : decode b_Mo_isPart 2 = .ok (.aload_n 0, 1) := by decide +kernel
theorem d_Mo_isPart_3 : decode b_Mo_isPart 3 = .ok (.getfield 86, 3) := by decide +kernel
theorem d_Mo_isPart_6 : decode b_Mo_isPart 6 = .ok (.iconst 1, 1) := by decide +kernel
theorem d_Mo_isPart_7 : decode b_Mo_isPart 7 = .ok (.isub, 1) := by decide +kernel
theorem d_Mo_isPart_8 : decode b_Mo_isPart 8 = .ok (.invokestatic 70, 3) := by decide +kernel
theorem d_Mo_isPart_11 : decode b_Mo_isPart 11 = .ok (.ireturn, 1) := by decide +kernel
theorem d_Mo_kindOf_0 : decode b_Mo_kindOf 0 = .ok (.iload_n 1, 1) := by decide +kernel
theorem d_Mo_kindOf_1 : decode b_Mo_kindOf 1 = .ok (.aload_n 0, 1) := by decide +kernel
theorem d_Mo_kindOf_2 : decode b_Mo_kindOf 2 = .ok (.getfield 77, 3) := by decide +kernel
theorem d_Mo_kindOf_5 : decode b_Mo_kindOf 5 = .ok (.if_icmp .ge 7, 3) := by decide +kernel
theorem d_Mo_kindOf_8 : decode b_Mo_kindOf 8 = .ok (.iconst 0, 1) := by decide +kernel
theorem d_Mo_kindOf_9 : decode b_Mo_kindOf 9 = .ok (.goto 21, 3) := by decide +kernel
theorem d_Mo_kindOf_12 : decode b_Mo_kindOf 12 = .ok (.iload_n 1, 1) := by decide +kernel
theorem d_Mo_kindOf_13 : decode b_Mo_kindOf 13 = .ok (.aload_n 0, 1) := by decide +kernel
theorem d_Mo_kindOf_14 : decode b_Mo_kindOf 14 = .ok (.getfield 77, 3) := by decide +kernel
theorem d_Mo_kindOf_17 : decode b_Mo_kindOf 17 = .ok (.aload_n 0, 1) := by decide +kernel
theorem d_Mo_kindOf_18 : decode b_Mo_kindOf 18 = .ok (.getfield 80, 3) := by decide +kernel
theorem d_Mo_kindOf_21 : decode b_Mo_kindOf 21 = .ok (.iadd, 1) := by decide +kernel
theorem d_Mo_kindOf_22 : decode b_Mo_kindOf 22 = .ok (.if_icmp .ge 7, 3) := by decide +kernel
theorem d_Mo_kindOf_25 : decode b_Mo_kindOf 25 = .ok (.iconst 1, 1) := by decide +kernel
theorem d_Mo_kindOf_26 : decode b_Mo_kindOf 26 = .ok (.goto 4, 3) := by decide +kernel
theorem d_Mo_kindOf_29 : decode b_Mo_kindOf 29 = .ok (.iconst 2, 1) := by decide +kernel
theorem d_Mo_kindOf_30 : decode b_Mo_kindOf 30 = .ok (.ireturn, 1) := by decide +kernel
theorem d_Mo_numberOf_0 : decode b_Mo_numberOf 0 = .ok (.iload_n 1, 1) := by decide +kernel
theorem d_Mo_numberOf_1 : decode b_Mo_numberOf 1 = .ok (.aload_n 0, 1) := by decide +kernel
theorem d_Mo_numberOf_2 : decode b_Mo_numberOf 2 = .ok (.getfield 77, 3) := by decide +kernel
theorem d_Mo_numberOf_5 : decode b_Mo_numberOf 5 = .ok (.if_icmp .ge 7, 3) := by decide +kernel
theorem d_Mo_numberOf_8 : decode b_Mo_numberOf 8 = .ok (.iload_n 1, 1) := by decide +kernel
theorem d_Mo_numberOf_9 : decode b_Mo_numberOf 9 = .ok (.goto 36, 3) := by decide +kernel
theorem d_Mo_numberOf_12 : decode b_Mo_numberOf 12 = .ok (.iload_n 1, 1) := by decide +kernel
theorem d_Mo_numberOf_13 : decode b_Mo_numberOf 13 = .ok (.aload_n 0, 1) := by decide +kernel
theorem d_Mo_numberOf_14 : decode b_Mo_numberOf 14 = .ok (.getfield 77, 3) := by decide +kernel
theorem d_Mo_numberOf_17 : decode b_Mo_numberOf 17 = .ok (.aload_n 0, 1) := by decide +kernel
theorem d_Mo_numberOf_18 : decode b_Mo_numberOf 18 = .ok (.getfield 80, 3) := by decide +kernel
theorem d_Mo_numberOf_21 : decode b_Mo_numberOf 21 = .ok (.iadd, 1) := by decide +kernel
theorem d_Mo_numberOf_22 : decode b_Mo_numberOf 22 = .ok (.if_icmp .ge 12, 3) := by decide +kernel
theorem d_Mo_numberOf_25 : decode b_Mo_numberOf 25 = .ok (.iload_n 1, 1) := by decide +kernel
theorem d_Mo_numberOf_26 : decode b_Mo_numberOf 26 = .ok (.aload_n 0, 1) := by decide +kernel
theorem d_Mo_numberOf_27 : decode b_Mo_numberOf 27 = .ok (.getfield 77, 3) := by decide +kernel
theorem d_Mo_numberOf_30 : decode b_Mo_numberOf 30 = .ok (.isub, 1) := by decide +kernel
theorem d_Mo_numberOf_31 : decode b_Mo_numberOf 31 = .ok (.goto 14, 3) := by decide +kernel
theorem d_Mo_numberOf_34 : decode b_Mo_numberOf 34 = .ok (.iload_n 1, 1) := by decide +kernel
theorem d_Mo_numberOf_35 : decode b_Mo_numberOf 35 = .ok (.aload_n 0, 1) := by decide +kernel
theorem d_Mo_numberOf_36 : decode b_Mo_numberOf 36 = .ok (.getfield 77, 3) := by decide +kernel
theorem d_Mo_numberOf_39 : decode b_Mo_numberOf 39 = .ok (.isub, 1) := by decide +kernel
theorem d_Mo_numberOf_40 : decode b_Mo_numberOf 40 = .ok (.aload_n 0, 1) := by decide +kernel
theorem d_Mo_numberOf_41 : decode b_Mo_numberOf 41 = .ok (.getfield 80, 3) := by decide +kernel
theorem d_Mo_numberOf_44 : decode b_Mo_numberOf 44 = .ok (.isub, 1) := by decide +kernel
theorem d_Mo_numberOf_45 : decode b_Mo_numberOf 45 = .ok (.ireturn, 1) := by decide +kernel
theorem d_Mo_conditions_0 : decode b_Mo_conditions 0 = .ok (.aload_n 0, 1) := by decide +kernel
theorem d_Mo_conditions_1 : decode b_Mo_conditions 1 = .ok (.iconst 0, 1) := by decide +kernel
theorem d_Mo_conditions_2 : decode b_Mo_conditions 2 = .ok (.putfield 52, 3) := by decide +kernel
theorem d_Mo_conditions_5 : decode b_Mo_conditions 5 = .ok (.aload_n 0, 1) := by decide +kernel
theorem d_Mo_conditions_6 : decode b_Mo_conditions 6 = .ok (.invokevirtual 108, 3) := by decide +kernel
theorem d_Mo_conditions_9 : decode b_Mo_conditions 9 = .ok (.ireturn, 1) := by decide +kernel
theorem d_Mo_goThrough_0 : decode b_Mo_goThrough 0 = .ok (.iconst 0, 1) := by decide +kernel
theorem d_Mo_goThrough_1 : decode b_Mo_goThrough 1 = .ok (.istore_n 1, 1) := by decide +kernel
theorem d_Mo_goThrough_2 : decode b_Mo_goThrough 2 = .ok (.iload_n 1, 1) := by decide +kernel
theorem d_Mo_goThrough_3 : decode b_Mo_goThrough 3 = .ok (.bipush 64, 2) := by decide +kernel
theorem d_Mo_goThrough_5 : decode b_Mo_goThrough 5 = .ok (.if_icmp .ge 16, 3) := by decide +kernel
theorem d_Mo_goThrough_8 : decode b_Mo_goThrough 8 = .ok (.aload_n 0, 1) := by decide +kernel
theorem d_Mo_goThrough_9 : decode b_Mo_goThrough 9 = .ok (.getfield 42, 3) := by decide +kernel
theorem d_Mo_goThrough_12 : decode b_Mo_goThrough 12 = .ok (.iload_n 1, 1) := by decide +kernel
theorem d_Mo_goThrough_13 : decode b_Mo_goThrough 13 = .ok (.iconst 0, 1) := by decide +kernel
theorem d_Mo_goThrough_14 : decode b_Mo_goThrough 14 = .ok (.iastore, 1) := by decide +kernel
theorem d_Mo_goThrough_15 : decode b_Mo_goThrough 15 = .ok (.iinc 1 1, 3) := by decide +kernel
theorem d_Mo_goThrough_18 : decode b_Mo_goThrough 18 = .ok (.goto (-16), 3) := by decide +kernel
theorem d_Mo_goThrough_21 : decode b_Mo_goThrough 21 = .ok (.iconst 0, 1) := by decide +kernel
theorem d_Mo_goThrough_22 : decode b_Mo_goThrough 22 = .ok (.istore_n 1, 1) := by decide +kernel
theorem d_Mo_goThrough_23 : decode b_Mo_goThrough 23 = .ok (.iload_n 1, 1) := by decide +kernel
theorem d_Mo_goThrough_24 : decode b_Mo_goThrough 24 = .ok (.bipush 8, 2) := by decide +kernel
theorem d_Mo_goThrough_26 : decode b_Mo_goThrough 26 = .ok (.if_icmp .ge 16, 3) := by decide +kernel
theorem d_Mo_goThrough_29 : decode b_Mo_goThrough 29 = .ok (.aload_n 0, 1) := by decide +kernel
theorem d_Mo_goThrough_30 : decode b_Mo_goThrough 30 = .ok (.getfield 45, 3) := by decide +kernel
theorem d_Mo_goThrough_33 : decode b_Mo_goThrough 33 = .ok (.iload_n 1, 1) := by decide +kernel
theorem d_Mo_goThrough_34 : decode b_Mo_goThrough 34 = .ok (.iconst 0, 1) := by decide +kernel
theorem d_Mo_goThrough_35 : decode b_Mo_goThrough 35 = .ok (.iastore, 1) := by decide +kernel
theorem d_Mo_goThrough_36 : decode b_Mo_goThrough 36 = .ok (.iinc 1 1, 3) := by decide +kernel
theorem d_Mo_goThrough_39 : decode b_Mo_goThrough 39 = .ok (.goto (-16), 3) := by decide +kernel
theorem d_Mo_goThrough_42 : decode b_Mo_goThrough 42 = .ok (.iconst 0, 1) := by decide +kernel
theorem d_Mo_goThrough_43 : decode b_Mo_goThrough 43 = .ok (.istore_n 1, 1) := by decide +kernel
theorem d_Mo_goThrough_44 : decode b_Mo_goThrough 44 = .ok (.iconst (-1), 1) := by decide +kernel
theorem d_Mo_goThrough_45 : decode b_Mo_goThrough 45 = .ok (.istore_n 2, 1) := by decide +kernel
theorem d_Mo_goThrough_46 : decode b_Mo_goThrough 46 = .ok (.iconst 0, 1) := by decide +kernel
theorem d_Mo_goThrough_47 : decode b_Mo_goThrough 47 = .ok (.istore_n 3, 1) := by decide +kernel
theorem d_Mo_goThrough_48 : decode b_Mo_goThrough 48 = .ok (.iconst 0, 1) := by decide +kernel
theorem d_Mo_goThrough_49 : decode b_Mo_goThrough 49 = .ok (.istore 4, 2) := by decide +kernel
theorem d_Mo_goThrough_51 : decode b_Mo_goThrough 51 = .ok (.iconst 0, 1) := by decide +kernel
theorem d_Mo_goThrough_52 : decode b_Mo_goThrough 52 = .ok (.istore 5, 2) := by decide +kernel
theorem d_Mo_goThrough_54 : decode b_Mo_goThrough 54 = .ok (.iload 5, 2) := by decide +kernel
theorem d_Mo_goThrough_56 : decode b_Mo_goThrough 56 = .ok (.aload_n 0, 1) := by decide +kernel
theorem d_Mo_goThrough_57 : decode b_Mo_goThrough 57 = .ok (.getfield 83, 3) := by decide +kernel
theorem d_Mo_goThrough_60 : decode b_Mo_goThrough 60 = .ok (.if_icmp .ge 287, 3) := by decide +kernel
theorem d_Mo_goThrough_63 : decode b_Mo_goThrough 63 = .ok (.aload_n 0, 1) := by decide +kernel
theorem d_Mo_goThrough_64 : decode b_Mo_goThrough 64 = .ok (.iload 5, 2) := by decide +kernel
theorem d_Mo_goThrough_66 : decode b_Mo_goThrough 66 = .ok (.invokevirtual 99, 3) := by decide +kernel
theorem d_Mo_goThrough_69 : decode b_Mo_goThrough 69 = .ok (.ifCond .ne 6, 3) := by decide +kernel
theorem d_Mo_goThrough_72 : decode b_Mo_goThrough 72 = .ok (.goto 269, 3) := by decide +kernel
theorem d_Mo_goThrough_75 : decode b_Mo_goThrough 75 = .ok (.aload_n 0, 1) := by decide +kernel
theorem d_Mo_goThrough_76 : decode b_Mo_goThrough 76 = .ok (.getfield 33, 3) := by decide +kernel
theorem d_Mo_goThrough_79 : decode b_Mo_goThrough 79 = .ok (.iload 5, 2) := by decide +kernel
theorem d_Mo_goThrough_81 : decode b_Mo_goThrough 81 = .ok (.baload, 1) := by decide +kernel
theorem d_Mo_goThrough_82 : decode b_Mo_goThrough 82 = .ok (.ifCond .eq 14, 3) := by decide +kernel
theorem d_Mo_goThrough_85 : decode b_Mo_goThrough 85 = .ok (.aload_n 0, 1) := by decide +kernel
theorem d_Mo_goThrough_86 : decode b_Mo_goThrough 86 = .ok (.getfield 30, 3) := by decide +kernel
theorem d_Mo_goThrough_89 : decode b_Mo_goThrough 89 = .ok (.iload 5, 2) := by decide +kernel
theorem d_Mo_goThrough_91 : decode b_Mo_goThrough 91 = .ok (.iaload, 1) := by decide +kernel
theorem d_Mo_goThrough_92 : decode b_Mo_goThrough 92 = .ok (.ineg, 1) := by decide +kernel
theorem d_Mo_goThrough_93 : decode b_Mo_goThrough 93 = .ok (.goto 10, 3) := by decide +kernel
theorem d_Mo_goThrough_96 : decode b_Mo_goThrough 96 = .ok (.aload_n 0, 1) := by decide +kernel
theorem d_Mo_goThrough_97 : decode b_Mo_goThrough 97 = .ok (.getfield 30, 3) := by decide +kernel
theorem d_Mo_goThrough_100 : decode b_Mo_goThrough 100 = .ok (.iload 5, 2) := by decide +kernel
theorem d_Mo_goThrough_102 : decode b_Mo_goThrough 102 = .ok (.iaload, 1) := by decide +kernel
theorem d_Mo_goThrough_103 : decode b_Mo_goThrough 103 = .ok (.istore 6, 2) := by decide +kernel
theorem d_Mo_goThrough_105 : decode b_Mo_goThrough 105 = .ok (.bipush 8, 2) := by decide +kernel
theorem d_Mo_goThrough_107 : decode b_Mo_goThrough 107 = .ok (.aload_n 0, 1) := by decide +kernel
theorem d_Mo_goThrough_108 : decode b_Mo_goThrough 108 = .ok (.getfield 24, 3) := by decide +kernel
theorem d_Mo_goThrough_111 : decode b_Mo_goThrough 111 = .ok (.iload 5, 2) := by decide +kernel
theorem d_Mo_goThrough_113 : decode b_Mo_goThrough 113 = .ok (.iaload, 1) := by decide +kernel
theorem d_Mo_goThrough_114 : decode b_Mo_goThrough 114 = .ok (.imul, 1) := by decide +kernel
theorem d_Mo_goThrough_115 : decode b_Mo_goThrough 115 = .ok (.aload_n 0, 1) := by decide +kernel
theorem d_Mo_goThrough_116 : decode b_Mo_goThrough 116 = .ok (.getfield 27, 3) := by decide +kernel
theorem d_Mo_goThrough_119 : decode b_Mo_goThrough 119 = .ok (.iload 5, 2) := by decide +kernel
theorem d_Mo_goThrough_121 : decode b_Mo_goThrough 121 = .ok (.iaload, 1) := by decide +kernel
theorem d_Mo_goThrough_122 : decode b_Mo_goThrough 122 = .ok (.iadd, 1) := by decide +kernel
theorem d_Mo_goThrough_123 : decode b_Mo_goThrough 123 = .ok (.istore 7, 2) := by decide +kernel
theorem d_Mo_goThrough_125 : decode b_Mo_goThrough 125 = .ok (.aload_n 0, 1) := by decide +kernel
theorem d_Mo_goThrough_126 : decode b_Mo_goThrough 126 = .ok (.getfield 42, 3) := by decide +kernel
theorem d_Mo_goThrough_129 : decode b_Mo_goThrough 129 = .ok (.iload 7, 2) := by decide +kernel
theorem d_Mo_goThrough_131 : decode b_Mo_goThrough 131 = .ok (.dup2, 1) := by decide +kernel
theorem d_Mo_goThrough_132 : decode b_Mo_goThrough 132 = .ok (.iaload, 1) := by decide +kernel
theorem d_Mo_goThrough_133 : decode b_Mo_goThrough 133 = .ok (.iload 6, 2) := by decide +kernel
theorem d_Mo_goThrough_135 : decode b_Mo_goThrough 135 = .ok (.iadd, 1) := by decide +kernel
theorem d_Mo_goThrough_136 : decode b_Mo_goThrough 136 = .ok (.iastore, 1) := by decide +kernel
theorem d_Mo_goThrough_137 : decode b_Mo_goThrough 137 = .ok (.iload_n 3, 1) := by decide +kernel
theorem d_Mo_goThrough_138 : decode b_Mo_goThrough 138 = .ok (.iload 6, 2) := by decide +kernel
theorem d_Mo_goThrough_140 : decode b_Mo_goThrough 140 = .ok (.iadd, 1) := by decide +kernel
theorem d_Mo_goThrough_141 : decode b_Mo_goThrough 141 = .ok (.istore_n 3, 1) := by decide +kernel
theorem d_Mo_goThrough_142 : decode b_Mo_goThrough 142 = .ok (.iload 4, 2) := by decide +kernel
theorem d_Mo_goThrough_144 : decode b_Mo_goThrough 144 = .ok (.iconst 1, 1) := by decide +kernel
theorem d_Mo_goThrough_145 : decode b_Mo_goThrough 145 = .ok (.aload_n 0, 1) := by decide +kernel
theorem d_Mo_goThrough_146 : decode b_Mo_goThrough 146 = .ok (.getfield 24, 3) := by decide +kernel
theorem d_Mo_goThrough_149 : decode b_Mo_goThrough 149 = .ok (.iload 5, 2) := by decide +kernel
theorem d_Mo_goThrough_151 : decode b_Mo_goThrough 151 = .ok (.iaload, 1) := by decide +kernel
theorem d_Mo_goThrough_152 : decode b_Mo_goThrough 152 = .ok (.ishl, 1) := by decide +kernel
theorem d_Mo_goThrough_153 : decode b_Mo_goThrough 153 = .ok (.ior, 1) := by decide +kernel
theorem d_Mo_goThrough_154 : decode b_Mo_goThrough 154 = .ok (.istore 4, 2) := by decide +kernel
theorem d_Mo_goThrough_156 : decode b_Mo_goThrough 156 = .ok (.aload_n 0, 1) := by decide +kernel
theorem d_Mo_goThrough_157 : decode b_Mo_goThrough 157 = .ok (.aload_n 0, 1) := by decide +kernel
theorem d_Mo_goThrough_158 : decode b_Mo_goThrough 158 = .ok (.getfield 24, 3) := by decide +kernel
theorem d_Mo_goThrough_161 : decode b_Mo_goThrough 161 = .ok (.iload 5, 2) := by decide +kernel
theorem d_Mo_goThrough_163 : decode b_Mo_goThrough 163 = .ok (.iaload, 1) := by decide +kernel
theorem d_Mo_goThrough_164 : decode b_Mo_goThrough 164 = .ok (.invokevirtual 102, 3) := by decide +kernel
theorem d_Mo_goThrough_167 : decode b_Mo_goThrough 167 = .ok (.istore 8, 2) := by decide +kernel
theorem d_Mo_goThrough_169 : decode b_Mo_goThrough 169 = .ok (.aload_n 0, 1) := by decide +kernel
theorem d_Mo_goThrough_170 : decode b_Mo_goThrough 170 = .ok (.getfield 45, 3) := by decide +kernel
theorem d_Mo_goThrough_173 : decode b_Mo_goThrough 173 = .ok (.aload_n 0, 1) := by decide +kernel
theorem d_Mo_goThrough_174 : decode b_Mo_goThrough 174 = .ok (.getfield 24, 3) := by decide +kernel
theorem d_Mo_goThrough_177 : decode b_Mo_goThrough 177 = .ok (.iload 5, 2) := by decide +kernel
theorem d_Mo_goThrough_179 : decode b_Mo_goThrough 179 = .ok (.iaload, 1) := by decide +kernel
theorem d_Mo_goThrough_180 : decode b_Mo_goThrough 180 = .ok (.iload 8, 2) := by decide +kernel
theorem d_Mo_goThrough_182 : decode b_Mo_goThrough 182 = .ok (.aload_n 0, 1) := by decide +kernel
theorem d_Mo_goThrough_183 : decode b_Mo_goThrough 183 = .ok (.getfield 45, 3) := by decide +kernel
theorem d_Mo_goThrough_186 : decode b_Mo_goThrough 186 = .ok (.aload_n 0, 1) := by decide +kernel
theorem d_Mo_goThrough_187 : decode b_Mo_goThrough 187 = .ok (.getfield 24, 3) := by decide +kernel
theorem d_Mo_goThrough_190 : decode b_Mo_goThrough 190 = .ok (.iload 5, 2) := by decide +kernel
theorem d_Mo_goThrough_192 : decode b_Mo_goThrough 192 = .ok (.iaload, 1) := by decide +kernel
theorem d_Mo_goThrough_193 : decode b_Mo_goThrough 193 = .ok (.iaload, 1) := by decide +kernel
theorem d_Mo_goThrough_194 : decode b_Mo_goThrough 194 = .ok (.if_icmp .le 8, 3) := by decide +kernel
theorem d_Mo_goThrough_197 : decode b_Mo_goThrough 197 = .ok (.iload 8, 2) := by decide +kernel
theorem d_Mo_goThrough_199 : decode b_Mo_goThrough 199 = .ok (.goto 15, 3) := by decide +kernel
theorem d_Mo_goThrough_202 : decode b_Mo_goThrough 202 = .ok (.aload_n 0, 1) := by decide +kernel
theorem d_Mo_goThrough_203 : decode b_Mo_goThrough 203 = .ok (.getfield 45, 3) := by decide +kernel
theorem d_Mo_goThrough_206 : decode b_Mo_goThrough 206 = .ok (.aload_n 0, 1) := by decide +kernel
theorem d_Mo_goThrough_207 : decode b_Mo_goThrough 207 = .ok (.getfield 24, 3) := by decide +kernel
theorem d_Mo_goThrough_210 : decode b_Mo_goThrough 210 = .ok (.iload 5, 2) := by decide +kernel
theorem d_Mo_goThrough_212 : decode b_Mo_goThrough 212 = .ok (.iaload, 1) := by decide +kernel
theorem d_Mo_goThrough_213 : decode b_Mo_goThrough 213 = .ok (.iaload, 1) := by decide +kernel
theorem d_Mo_goThrough_214 : decode b_Mo_goThrough 214 = .ok (.iastore, 1) := by decide +kernel
theorem d_Mo_goThrough_215 : decode b_Mo_goThrough 215 = .ok (.iload 8, 2) := by decide +kernel
theorem d_Mo_goThrough_217 : decode b_Mo_goThrough 217 = .ok (.aload_n 0, 1) := by decide +kernel
theorem d_Mo_goThrough_218 : decode b_Mo_goThrough 218 = .ok (.getfield 17, 3) := by decide +kernel
theorem d_Mo_goThrough_221 : decode b_Mo_goThrough 221 = .ok (.aload_n 0, 1) := by decide +kernel
theorem d_Mo_goThrough_222 : decode b_Mo_goThrough 222 = .ok (.getfield 24, 3) := by decide +kernel
theorem d_Mo_goThrough_225 : decode b_Mo_goThrough 225 = .ok (.iload 5, 2) := by decide +kernel
theorem d_Mo_goThrough_227 : decode b_Mo_goThrough 227 = .ok (.iaload, 1) := by decide +kernel
theorem d_Mo_goThrough_228 : decode b_Mo_goThrough 228 = .ok (.iaload, 1) := by decide +kernel
theorem d_Mo_goThrough_229 : decode b_Mo_goThrough 229 = .ok (.if_icmp .le 7, 3) := by decide +kernel
theorem d_Mo_goThrough_232 : decode b_Mo_goThrough 232 = .ok (.iload_n 1, 1) := by decide +kernel
theorem d_Mo_goThrough_233 : decode b_Mo_goThrough 233 = .ok (.iconst 1, 1) := by decide +kernel
theorem d_Mo_goThrough_234 : decode b_Mo_goThrough 234 = .ok (.ior, 1) := by decide +kernel
theorem d_Mo_goThrough_235 : decode b_Mo_goThrough 235 = .ok (.istore_n 1, 1) := by decide +kernel
theorem d_Mo_goThrough_236 : decode b_Mo_goThrough 236 = .ok (.aload_n 0, 1) := by decide +kernel
theorem d_Mo_goThrough_237 : decode b_Mo_goThrough 237 = .ok (.getfield 42, 3) := by decide +kernel
theorem d_Mo_goThrough_240 : decode b_Mo_goThrough 240 = .ok (.iload 7, 2) := by decide +kernel
theorem d_Mo_goThrough_242 : decode b_Mo_goThrough 242 = .ok (.iaload, 1) := by decide +kernel
theorem d_Mo_goThrough_243 : decode b_Mo_goThrough 243 = .ok (.ifCond .ge 7, 3) := by decide +kernel
theorem d_Mo_goThrough_246 : decode b_Mo_goThrough 246 = .ok (.iload_n 1, 1) := by decide +kernel
theorem d_Mo_goThrough_247 : decode b_Mo_goThrough 247 = .ok (.iconst 2, 1) := by decide +kernel
theorem d_Mo_goThrough_248 : decode b_Mo_goThrough 248 = .ok (.ior, 1) := by decide +kernel
theorem d_Mo_goThrough_249 : decode b_Mo_goThrough 249 = .ok (.istore_n 1, 1) := by decide +kernel
theorem d_Mo_goThrough_250 : decode b_Mo_goThrough 250 = .ok (.iload_n 2, 1) := by decide +kernel
theorem d_Mo_goThrough_251 : decode b_Mo_goThrough 251 = .ok (.iconst (-1), 1) := by decide +kernel
theorem d_Mo_goThrough_252 : decode b_Mo_goThrough 252 = .ok (.if_icmp .eq 71, 3) := by decide +kernel
theorem d_Mo_goThrough_255 : decode b_Mo_goThrough 255 = .ok (.aload_n 0, 1) := by decide +kernel
theorem d_Mo_goThrough_256 : decode b_Mo_goThrough 256 = .ok (.getfield 24, 3) := by decide +kernel
theorem d_Mo_goThrough_259 : decode b_Mo_goThrough 259 = .ok (.iload_n 2, 1) := by decide +kernel
theorem d_Mo_goThrough_260 : decode b_Mo_goThrough 260 = .ok (.iaload, 1) := by decide +kernel
theorem d_Mo_goThrough_261 : decode b_Mo_goThrough 261 = .ok (.aload_n 0, 1) := by decide +kernel
theorem d_Mo_goThrough_262 : decode b_Mo_goThrough 262 = .ok (.getfield 24, 3) := by decide +kernel
theorem d_Mo_goThrough_265 : decode b_Mo_goThrough 265 = .ok (.iload 5, 2) := by decide +kernel
theorem d_Mo_goThrough_267 : decode b_Mo_goThrough 267 = .ok (.iaload, 1) := by decide +kernel
theorem d_Mo_goThrough_268 : decode b_Mo_goThrough 268 = .ok (.if_icmp .ne 55, 3) := by decide +kernel
theorem d_Mo_goThrough_271 : decode b_Mo_goThrough 271 = .ok (.aload_n 0, 1) := by decide +kernel
theorem d_Mo_goThrough_272 : decode b_Mo_goThrough 272 = .ok (.getfield 27, 3) := by decide +kernel
theorem d_Mo_goThrough_275 : decode b_Mo_goThrough 275 = .ok (.iload_n 2, 1) := by decide +kernel
theorem d_Mo_goThrough_276 : decode b_Mo_goThrough 276 = .ok (.iaload, 1) := by decide +kernel
theorem d_Mo_goThrough_277 : decode b_Mo_goThrough 277 = .ok (.aload_n 0, 1) := by decide +kernel
theorem d_Mo_goThrough_278 : decode b_Mo_goThrough 278 = .ok (.getfield 27, 3) := by decide +kernel
theorem d_Mo_goThrough_281 : decode b_Mo_goThrough 281 = .ok (.iload 5, 2) := by decide +kernel
theorem d_Mo_goThrough_283 : decode b_Mo_goThrough 283 = .ok (.iaload, 1) := by decide +kernel
theorem d_Mo_goThrough_284 : decode b_Mo_goThrough 284 = .ok (.if_icmp .ne 39, 3) := by decide +kernel
theorem d_Mo_goThrough_287 : decode b_Mo_goThrough 287 = .ok (.aload_n 0, 1) := by decide +kernel
theorem d_Mo_goThrough_288 : decode b_Mo_goThrough 288 = .ok (.getfield 30, 3) := by decide +kernel
theorem d_Mo_goThrough_291 : decode b_Mo_goThrough 291 = .ok (.iload_n 2, 1) := by decide +kernel
theorem d_Mo_goThrough_292 : decode b_Mo_goThrough 292 = .ok (.iaload, 1) := by decide +kernel
theorem d_Mo_goThrough_293 : decode b_Mo_goThrough 293 = .ok (.aload_n 0, 1) := by decide +kernel
theorem d_Mo_goThrough_294 : decode b_Mo_goThrough 294 = .ok (.getfield 30, 3) := by decide +kernel
theorem d_Mo_goThrough_297 : decode b_Mo_goThrough 297 = .ok (.iload 5, 2) := by decide +kernel
theorem d_Mo_goThrough_299 : decode b_Mo_goThrough 299 = .ok (.iaload, 1) := by decide +kernel
theorem d_Mo_goThrough_300 : decode b_Mo_goThrough 300 = .ok (.if_icmp .ne 23, 3) := by decide +kernel
theorem d_Mo_goThrough_303 : decode b_Mo_goThrough 303 = .ok (.aload_n 0, 1) := by decide +kernel
theorem d_Mo_goThrough_304 : decode b_Mo_goThrough 304 = .ok (.getfield 33, 3) := by decide +kernel
theorem d_Mo_goThrough_307 : decode b_Mo_goThrough 307 = .ok (.iload_n 2, 1) := by decide +kernel
theorem d_Mo_goThrough_308 : decode b_Mo_goThrough 308 = .ok (.baload, 1) := by decide +kernel
theorem d_Mo_goThrough_309 : decode b_Mo_goThrough 309 = .ok (.aload_n 0, 1) := by decide +kernel
theorem d_Mo_goThrough_310 : decode b_Mo_goThrough 310 = .ok (.getfield 33, 3) := by decide +kernel
theorem d_Mo_goThrough_313 : decode b_Mo_goThrough 313 = .ok (.iload 5, 2) := by decide +kernel
theorem d_Mo_goThrough_315 : decode b_Mo_goThrough 315 = .ok (.baload, 1) := by decide +kernel
theorem d_Mo_goThrough_316 : decode b_Mo_goThrough 316 = .ok (.if_icmp .eq 7, 3) := by decide +kernel
theorem d_Mo_goThrough_319 : decode b_Mo_goThrough 319 = .ok (.iload_n 1, 1) := by decide +kernel
theorem d_Mo_goThrough_320 : decode b_Mo_goThrough 320 = .ok (.iconst 4, 1) := by decide +kernel
theorem d_Mo_goThrough_321 : decode b_Mo_goThrough 321 = .ok (.ior, 1) := by decide +kernel
theorem d_Mo_goThrough_322 : decode b_Mo_goThrough 322 = .ok (.istore_n 1, 1) := by decide +kernel
theorem d_Mo_goThrough_323 : decode b_Mo_goThrough 323 = .ok (.aload_n 0, 1) := by decide +kernel
theorem d_Mo_goThrough_324 : decode b_Mo_goThrough 324 = .ok (.getfield 36, 3) := by decide +kernel
theorem d_Mo_goThrough_327 : decode b_Mo_goThrough 327 = .ok (.iload 5, 2) := by decide +kernel
theorem d_Mo_goThrough_329 : decode b_Mo_goThrough 329 = .ok (.baload, 1) := by decide +kernel
theorem d_Mo_goThrough_330 : decode b_Mo_goThrough 330 = .ok (.ifCond .eq 8, 3) := by decide +kernel
theorem d_Mo_goThrough_333 : decode b_Mo_goThrough 333 = .ok (.iload_n 1, 1) := by decide +kernel
theorem d_Mo_goThrough_334 : decode b_Mo_goThrough 334 = .ok (.bipush 8, 2) := by decide +kernel
theorem d_Mo_goThrough_336 : decode b_Mo_goThrough 336 = .ok (.ior, 1) := by decide +kernel
theorem d_Mo_goThrough_337 : decode b_Mo_goThrough 337 = .ok (.istore_n 1, 1) := by decide +kernel
theorem d_Mo_goThrough_338 : decode b_Mo_goThrough 338 = .ok (.iload 5, 2) := by decide +kernel
theorem d_Mo_goThrough_340 : decode b_Mo_goThrough 340 = .ok (.istore_n 2, 1) := by decide +kernel
theorem d_Mo_goThrough_341 : decode b_Mo_goThrough 341 = .ok (.iinc 5 1, 3) := by decide +kernel
theorem d_Mo_goThrough_344 : decode b_Mo_goThrough 344 = .ok (.goto (-290), 3) := by decide +kernel
theorem d_Mo_goThrough_347 : decode b_Mo_goThrough 347 = .ok (.iload_n 3, 1) := by decide +kernel
theorem d_Mo_goThrough_348 : decode b_Mo_goThrough 348 = .ok (.iconst 2, 1) := by decide +kernel
theorem d_Mo_goThrough_349 : decode b_Mo_goThrough 349 = .ok (.irem, 1) := by decide +kernel
theorem d_Mo_goThrough_350 : decode b_Mo_goThrough 350 = .ok (.ifCond .eq 8, 3) := by decide +kernel
theorem d_Mo_goThrough_353 : decode b_Mo_goThrough 353 = .ok (.iload_n 1, 1) := by decide +kernel
theorem d_Mo_goThrough_354 : decode b_Mo_goThrough 354 = .ok (.bipush 16, 2) := by decide +kernel
theorem d_Mo_goThrough_356 : decode b_Mo_goThrough 356 = .ok (.ior, 1) := by decide +kernel
theorem d_Mo_goThrough_357 : decode b_Mo_goThrough 357 = .ok (.istore_n 1, 1) := by decide +kernel
theorem d_Mo_goThrough_358 : decode b_Mo_goThrough 358 = .ok (.iconst 0, 1) := by decide +kernel
theorem d_Mo_goThrough_359 : decode b_Mo_goThrough 359 = .ok (.istore 5, 2) := by decide +kernel
theorem d_Mo_goThrough_361 : decode b_Mo_goThrough 361 = .ok (.iload 5, 2) := by decide +kernel
theorem d_Mo_goThrough_363 : decode b_Mo_goThrough 363 = .ok (.aload_n 0, 1) := by decide +kernel
theorem d_Mo_goThrough_364 : decode b_Mo_goThrough 364 = .ok (.getfield 77, 3) := by decide +kernel
theorem d_Mo_goThrough_367 : decode b_Mo_goThrough 367 = .ok (.if_icmp .ge 34, 3) := by decide +kernel
theorem d_Mo_goThrough_370 : decode b_Mo_goThrough 370 = .ok (.aload_n 0, 1) := by decide +kernel
theorem d_Mo_goThrough_371 : decode b_Mo_goThrough 371 = .ok (.getfield 13, 3) := by decide +kernel
theorem d_Mo_goThrough_374 : decode b_Mo_goThrough 374 = .ok (.iload 5, 2) := by decide +kernel
theorem d_Mo_goThrough_376 : decode b_Mo_goThrough 376 = .ok (.baload, 1) := by decide +kernel
theorem d_Mo_goThrough_377 : decode b_Mo_goThrough 377 = .ok (.ifCond .ne 18, 3) := by decide +kernel
theorem d_Mo_goThrough_380 : decode b_Mo_goThrough 380 = .ok (.iload 4, 2) := by decide +kernel
theorem d_Mo_goThrough_382 : decode b_Mo_goThrough 382 = .ok (.iload 5, 2) := by decide +kernel
theorem d_Mo_goThrough_384 : decode b_Mo_goThrough 384 = .ok (.ishr, 1) := by decide +kernel
theorem d_Mo_goThrough_385 : decode b_Mo_goThrough 385 = .ok (.iconst 1, 1) := by decide +kernel
theorem d_Mo_goThrough_386 : decode b_Mo_goThrough 386 = .ok (.iand, 1) := by decide +kernel
theorem d_Mo_goThrough_387 : decode b_Mo_goThrough 387 = .ok (.ifCond .ne 8, 3) := by decide +kernel
theorem d_Mo_goThrough_390 : decode b_Mo_goThrough 390 = .ok (.iload_n 1, 1) := by decide +kernel
theorem d_Mo_goThrough_391 : decode b_Mo_goThrough 391 = .ok (.bipush 32, 2) := by decide +kernel
theorem d_Mo_goThrough_393 : decode b_Mo_goThrough 393 = .ok (.ior, 1) := by decide +kernel
theorem d_Mo_goThrough_394 : decode b_Mo_goThrough 394 = .ok (.istore_n 1, 1) := by decide +kernel
theorem d_Mo_goThrough_395 : decode b_Mo_goThrough 395 = .ok (.iinc 5 1, 3) := by decide +kernel
theorem d_Mo_goThrough_398 : decode b_Mo_goThrough 398 = .ok (.goto (-37), 3) := by decide +kernel
theorem d_Mo_goThrough_401 : decode b_Mo_goThrough 401 = .ok (.iload_n 1, 1) := by decide +kernel
theorem d_Mo_goThrough_402 : decode b_Mo_goThrough 402 = .ok (.ireturn, 1) := by decide +kernel
theorem d_Mo_counts_0 : decode b_Mo_counts 0 = .ok (.aload_n 0, 1) := by decide +kernel
theorem d_Mo_counts_1 : decode b_Mo_counts 1 = .ok (.getfield 13, 3) := by decide +kernel
theorem d_Mo_counts_4 : decode b_Mo_counts 4 = .ok (.aload_n 0, 1) := by decide +kernel
theorem d_Mo_counts_5 : decode b_Mo_counts 5 = .ok (.getfield 77, 3) := by decide +kernel
theorem d_Mo_counts_8 : decode b_Mo_counts 8 = .ok (.aload_n 0, 1) := by decide +kernel
theorem d_Mo_counts_9 : decode b_Mo_counts 9 = .ok (.getfield 80, 3) := by decide +kernel
theorem d_Mo_counts_12 : decode b_Mo_counts 12 = .ok (.iadd, 1) := by decide +kernel
theorem d_Mo_counts_13 : decode b_Mo_counts 13 = .ok (.iload_n 1, 1) := by decide +kernel
theorem d_Mo_counts_14 : decode b_Mo_counts 14 = .ok (.iadd, 1) := by decide +kernel
theorem d_Mo_counts_15 : decode b_Mo_counts 15 = .ok (.baload, 1) := by decide +kernel
theorem d_Mo_counts_16 : decode b_Mo_counts 16 = .ok (.ifCond .ne 40, 3) := by decide +kernel
theorem d_Mo_counts_19 : decode b_Mo_counts 19 = .ok (.aload_n 0, 1) := by decide +kernel
theorem d_Mo_counts_20 : decode b_Mo_counts 20 = .ok (.getfield 13, 3) := by decide +kernel
theorem d_Mo_counts_23 : decode b_Mo_counts 23 = .ok (.aload_n 0, 1) := by decide +kernel
theorem d_Mo_counts_24 : decode b_Mo_counts 24 = .ok (.getfield 24, 3) := by decide +kernel
theorem d_Mo_counts_27 : decode b_Mo_counts 27 = .ok (.iload_n 1, 1) := by decide +kernel
theorem d_Mo_counts_28 : decode b_Mo_counts 28 = .ok (.iaload, 1) := by decide +kernel
theorem d_Mo_counts_29 : decode b_Mo_counts 29 = .ok (.baload, 1) := by decide +kernel
theorem d_Mo_counts_30 : decode b_Mo_counts 30 = .ok (.ifCond .ne 26, 3) := by decide +kernel
theorem d_Mo_counts_33 : decode b_Mo_counts 33 = .ok (.aload_n 0, 1) := by decide +kernel
theorem d_Mo_counts_34 : decode b_Mo_counts 34 = .ok (.getfield 13, 3) := by decide +kernel
theorem d_Mo_counts_37 : decode b_Mo_counts 37 = .ok (.aload_n 0, 1) := by decide +kernel
theorem d_Mo_counts_38 : decode b_Mo_counts 38 = .ok (.getfield 77, 3) := by decide +kernel
theorem d_Mo_counts_41 : decode b_Mo_counts 41 = .ok (.aload_n 0, 1) := by decide +kernel
theorem d_Mo_counts_42 : decode b_Mo_counts 42 = .ok (.getfield 27, 3) := by decide +kernel
theorem d_Mo_counts_45 : decode b_Mo_counts 45 = .ok (.iload_n 1, 1) := by decide +kernel
theorem d_Mo_counts_46 : decode b_Mo_counts 46 = .ok (.iaload, 1) := by decide +kernel
theorem d_Mo_counts_47 : decode b_Mo_counts 47 = .ok (.iadd, 1) := by decide +kernel
theorem d_Mo_counts_48 : decode b_Mo_counts 48 = .ok (.baload, 1) := by decide +kernel
theorem d_Mo_counts_49 : decode b_Mo_counts 49 = .ok (.ifCond .ne 7, 3) := by decide +kernel
theorem d_Mo_counts_52 : decode b_Mo_counts 52 = .ok (.iconst 1, 1) := by decide +kernel
theorem d_Mo_counts_53 : decode b_Mo_counts 53 = .ok (.goto 4, 3) := by decide +kernel
theorem d_Mo_counts_56 : decode b_Mo_counts 56 = .ok (.iconst 0, 1) := by decide +kernel
theorem d_Mo_counts_57 : decode b_Mo_counts 57 = .ok (.ireturn, 1) := by decide +kernel
theorem d_Mo_gramsAt_0 : decode b_Mo_gramsAt 0 = .ok (.iconst 0, 1) := by decide +kernel
theorem d_Mo_gramsAt_1 : decode b_Mo_gramsAt 1 = .ok (.istore_n 2, 1) := by decide +kernel
theorem d_Mo_gramsAt_2 : decode b_Mo_gramsAt 2 = .ok (.iconst 0, 1) := by decide +kernel
theorem d_Mo_gramsAt_3 : decode b_Mo_gramsAt 3 = .ok (.istore_n 3, 1) := by decide +kernel
theorem d_Mo_gramsAt_4 : decode b_Mo_gramsAt 4 = .ok (.iload_n 3, 1) := by decide +kernel
theorem d_Mo_gramsAt_5 : decode b_Mo_gramsAt 5 = .ok (.aload_n 0, 1) := by decide +kernel
theorem d_Mo_gramsAt_6 : decode b_Mo_gramsAt 6 = .ok (.getfield 80, 3) := by decide +kernel
theorem d_Mo_gramsAt_9 : decode b_Mo_gramsAt 9 = .ok (.if_icmp .ge 48, 3) := by decide +kernel
theorem d_Mo_gramsAt_12 : decode b_Mo_gramsAt 12 = .ok (.iload_n 2, 1) := by decide +kernel
theorem d_Mo_gramsAt_13 : decode b_Mo_gramsAt 13 = .ok (.aload_n 0, 1) := by decide +kernel
theorem d_Mo_gramsAt_14 : decode b_Mo_gramsAt 14 = .ok (.getfield 42, 3) := by decide +kernel
theorem d_Mo_gramsAt_17 : decode b_Mo_gramsAt 17 = .ok (.bipush 8, 2) := by decide +kernel
theorem d_Mo_gramsAt_19 : decode b_Mo_gramsAt 19 = .ok (.iload_n 1, 1) := by decide +kernel
theorem d_Mo_gramsAt_20 : decode b_Mo_gramsAt 20 = .ok (.imul, 1) := by decide +kernel
theorem d_Mo_gramsAt_21 : decode b_Mo_gramsAt 21 = .ok (.iload_n 3, 1) := by decide +kernel
theorem d_Mo_gramsAt_22 : decode b_Mo_gramsAt 22 = .ok (.iadd, 1) := by decide +kernel
theorem d_Mo_gramsAt_23 : decode b_Mo_gramsAt 23 = .ok (.iaload, 1) := by decide +kernel
theorem d_Mo_gramsAt_24 : decode b_Mo_gramsAt 24 = .ok (.ifCond .le 24, 3) := by decide +kernel
theorem d_Mo_gramsAt_27 : decode b_Mo_gramsAt 27 = .ok (.aload_n 0, 1) := by decide +kernel
theorem d_Mo_gramsAt_28 : decode b_Mo_gramsAt 28 = .ok (.getfield 42, 3) := by decide +kernel
theorem d_Mo_gramsAt_31 : decode b_Mo_gramsAt 31 = .ok (.bipush 8, 2) := by decide +kernel
theorem d_Mo_gramsAt_33 : decode b_Mo_gramsAt 33 = .ok (.iload_n 1, 1) := by decide +kernel
theorem d_Mo_gramsAt_34 : decode b_Mo_gramsAt 34 = .ok (.imul, 1) := by decide +kernel
theorem d_Mo_gramsAt_35 : decode b_Mo_gramsAt 35 = .ok (.iload_n 3, 1) := by decide +kernel
theorem d_Mo_gramsAt_36 : decode b_Mo_gramsAt 36 = .ok (.iadd, 1) := by decide +kernel
theorem d_Mo_gramsAt_37 : decode b_Mo_gramsAt 37 = .ok (.iaload, 1) := by decide +kernel
theorem d_Mo_gramsAt_38 : decode b_Mo_gramsAt 38 = .ok (.aload_n 0, 1) := by decide +kernel
theorem d_Mo_gramsAt_39 : decode b_Mo_gramsAt 39 = .ok (.getfield 21, 3) := by decide +kernel
theorem d_Mo_gramsAt_42 : decode b_Mo_gramsAt 42 = .ok (.iload_n 3, 1) := by decide +kernel
theorem d_Mo_gramsAt_43 : decode b_Mo_gramsAt 43 = .ok (.iaload, 1) := by decide +kernel
theorem d_Mo_gramsAt_44 : decode b_Mo_gramsAt 44 = .ok (.imul, 1) := by decide +kernel
theorem d_Mo_gramsAt_45 : decode b_Mo_gramsAt 45 = .ok (.goto 4, 3) := by decide +kernel
theorem d_Mo_gramsAt_48 : decode b_Mo_gramsAt 48 = .ok (.iconst 0, 1) := by decide +kernel
theorem d_Mo_gramsAt_49 : decode b_Mo_gramsAt 49 = .ok (.iadd, 1) := by decide +kernel
theorem d_Mo_gramsAt_50 : decode b_Mo_gramsAt 50 = .ok (.istore_n 2, 1) := by decide +kernel
theorem d_Mo_gramsAt_51 : decode b_Mo_gramsAt 51 = .ok (.iinc 3 1, 3) := by decide +kernel
theorem d_Mo_gramsAt_54 : decode b_Mo_gramsAt 54 = .ok (.goto (-50), 3) := by decide +kernel
theorem d_Mo_gramsAt_57 : decode b_Mo_gramsAt 57 = .ok (.iload_n 2, 1) := by decide +kernel
theorem d_Mo_gramsAt_58 : decode b_Mo_gramsAt 58 = .ok (.ireturn, 1) := by decide +kernel
theorem d_Mo_verdict_0 : decode b_Mo_verdict 0 = .ok (.aload_n 0, 1) := by decide +kernel
theorem d_Mo_verdict_1 : decode b_Mo_verdict 1 = .ok (.iload_n 1, 1) := by decide +kernel
theorem d_Mo_verdict_2 : decode b_Mo_verdict 2 = .ok (.iconst 0, 1) := by decide +kernel
theorem d_Mo_verdict_3 : decode b_Mo_verdict 3 = .ok (.bipush 63, 2) := by decide +kernel
theorem d_Mo_verdict_5 : decode b_Mo_verdict 5 = .ok (.invokestatic 70, 3) := by decide +kernel
theorem d_Mo_verdict_8 : decode b_Mo_verdict 8 = .ok (.ifCond .eq 7, 3) := by decide +kernel
theorem d_Mo_verdict_11 : decode b_Mo_verdict 11 = .ok (.iconst 0, 1) := by decide +kernel
theorem d_Mo_verdict_12 : decode b_Mo_verdict 12 = .ok (.goto 4, 3) := by decide +kernel
theorem d_Mo_verdict_15 : decode b_Mo_verdict 15 = .ok (.iconst 1, 1) := by decide +kernel
theorem d_Mo_verdict_16 : decode b_Mo_verdict 16 = .ok (.putfield 52, 3) := by decide +kernel
theorem d_Mo_verdict_19 : decode b_Mo_verdict 19 = .ok (.aload_n 0, 1) := by decide +kernel
theorem d_Mo_verdict_20 : decode b_Mo_verdict 20 = .ok (.getfield 52, 3) := by decide +kernel
theorem d_Mo_verdict_23 : decode b_Mo_verdict 23 = .ok (.ifCond .le 5, 3) := by decide +kernel
theorem d_Mo_verdict_26 : decode b_Mo_verdict 26 = .ok (.iconst 0, 1) := by decide +kernel
theorem d_Mo_verdict_27 : decode b_Mo_verdict 27 = .ok (.ireturn, 1) := by decide +kernel
theorem d_Mo_verdict_28 : decode b_Mo_verdict 28 = .ok (.aload_n 0, 1) := by decide +kernel
theorem d_Mo_verdict_29 : decode b_Mo_verdict 29 = .ok (.iload_n 1, 1) := by decide +kernel
theorem d_Mo_verdict_30 : decode b_Mo_verdict 30 = .ok (.putfield 105, 3) := by decide +kernel
theorem d_Mo_verdict_33 : decode b_Mo_verdict 33 = .ok (.aload_n 0, 1) := by decide +kernel
theorem d_Mo_verdict_34 : decode b_Mo_verdict 34 = .ok (.invokevirtual 112, 3) := by decide +kernel
theorem d_Mo_verdict_37 : decode b_Mo_verdict 37 = .ok (.ireturn, 1) := by decide +kernel
theorem d_Mo_isSo_0 : decode b_Mo_isSo 0 = .ok (.aload_n 0, 1) := by decide +kernel
theorem d_Mo_isSo_1 : decode b_Mo_isSo 1 = .ok (.getfield 105, 3) := by decide +kernel
theorem d_Mo_isSo_4 : decode b_Mo_isSo 4 = .ok (.aload_n 0, 1) := by decide +kernel
theorem d_Mo_isSo_5 : decode b_Mo_isSo 5 = .ok (.invokevirtual 108, 3) := by decide +kernel
theorem d_Mo_isSo_8 : decode b_Mo_isSo 8 = .ok (.iconst (-1), 1) := by decide +kernel
theorem d_Mo_isSo_9 : decode b_Mo_isSo 9 = .ok (.ixor, 1) := by decide +kernel
theorem d_Mo_isSo_10 : decode b_Mo_isSo 10 = .ok (.iand, 1) := by decide +kernel
theorem d_Mo_isSo_11 : decode b_Mo_isSo 11 = .ok (.ifCond .ne 7, 3) := by decide +kernel
theorem d_Mo_isSo_14 : decode b_Mo_isSo 14 = .ok (.iconst 1, 1) := by decide +kernel
theorem d_Mo_isSo_15 : decode b_Mo_isSo 15 = .ok (.goto 4, 3) := by decide +kernel
theorem d_Mo_isSo_18 : decode b_Mo_isSo 18 = .ok (.iconst 0, 1) := by decide +kernel
theorem d_Mo_isSo_19 : decode b_Mo_isSo 19 = .ok (.ireturn, 1) := by decide +kernel
theorem d_Mo_holds_0 : decode b_Mo_holds 0 = .ok (.aload_n 0, 1) := by decide +kernel
theorem d_Mo_holds_1 : decode b_Mo_holds 1 = .ok (.iconst 0, 1) := by decide +kernel
theorem d_Mo_holds_2 : decode b_Mo_holds 2 = .ok (.putfield 52, 3) := by decide +kernel
theorem d_Mo_holds_5 : decode b_Mo_holds 5 = .ok (.aload_n 0, 1) := by decide +kernel
theorem d_Mo_holds_6 : decode b_Mo_holds 6 = .ok (.invokevirtual 112, 3) := by decide +kernel
theorem d_Mo_holds_9 : decode b_Mo_holds 9 = .ok (.ireturn, 1) := by decide +kernel
theorem d_Mo_leave_0 : decode b_Mo_leave 0 = .ok (.aload_n 0, 1) := by decide +kernel
theorem d_Mo_leave_1 : decode b_Mo_leave 1 = .ok (.aload_n 0, 1) := by decide +kernel
theorem d_Mo_leave_2 : decode b_Mo_leave 2 = .ok (.iload_n 1, 1) := by decide +kernel
theorem d_Mo_leave_3 : decode b_Mo_leave 3 = .ok (.invokevirtual 89, 3) := by decide +kernel
theorem d_Mo_leave_6 : decode b_Mo_leave 6 = .ok (.ifCond .ne 7, 3) := by decide +kernel
theorem d_Mo_leave_9 : decode b_Mo_leave 9 = .ok (.iconst 1, 1) := by decide +kernel
theorem d_Mo_leave_10 : decode b_Mo_leave 10 = .ok (.goto 4, 3) := by decide +kernel
theorem d_Mo_leave_13 : decode b_Mo_leave 13 = .ok (.iconst 0, 1) := by decide +kernel
theorem d_Mo_leave_14 : decode b_Mo_leave 14 = .ok (.putfield 52, 3) := by decide +kernel
theorem d_Mo_leave_17 : decode b_Mo_leave 17 = .ok (.aload_n 0, 1) := by decide +kernel
theorem d_Mo_leave_18 : decode b_Mo_leave 18 = .ok (.getfield 52, 3) := by decide +kernel
theorem d_Mo_leave_21 : decode b_Mo_leave 21 = .ok (.ifCond .ne 22, 3) := by decide +kernel
theorem d_Mo_leave_24 : decode b_Mo_leave 24 = .ok (.aload_n 0, 1) := by decide +kernel
theorem d_Mo_leave_25 : decode b_Mo_leave 25 = .ok (.aload_n 0, 1) := by decide +kernel
theorem d_Mo_leave_26 : decode b_Mo_leave 26 = .ok (.getfield 13, 3) := by decide +kernel
theorem d_Mo_leave_29 : decode b_Mo_leave 29 = .ok (.iload_n 1, 1) := by decide +kernel
theorem d_Mo_leave_30 : decode b_Mo_leave 30 = .ok (.baload, 1) := by decide +kernel
theorem d_Mo_leave_31 : decode b_Mo_leave 31 = .ok (.iload_n 2, 1) := by decide +kernel
theorem d_Mo_leave_32 : decode b_Mo_leave 32 = .ok (.if_icmp .ne 7, 3) := by decide +kernel
theorem d_Mo_leave_35 : decode b_Mo_leave 35 = .ok (.iconst 2, 1) := by decide +kernel
theorem d_Mo_leave_36 : decode b_Mo_leave 36 = .ok (.goto 4, 3) := by decide +kernel
theorem d_Mo_leave_39 : decode b_Mo_leave 39 = .ok (.iconst 0, 1) := by decide +kernel
theorem d_Mo_leave_40 : decode b_Mo_leave 40 = .ok (.putfield 52, 3) := by decide +kernel
theorem d_Mo_leave_43 : decode b_Mo_leave 43 = .ok (.aload_n 0, 1) := by decide +kernel
theorem d_Mo_leave_44 : decode b_Mo_leave 44 = .ok (.getfield 52, 3) := by decide +kernel
theorem d_Mo_leave_47 : decode b_Mo_leave 47 = .ok (.ifCond .le 5, 3) := by decide +kernel
theorem d_Mo_leave_50 : decode b_Mo_leave 50 = .ok (.iconst 0, 1) := by decide +kernel
theorem d_Mo_leave_51 : decode b_Mo_leave 51 = .ok (.ireturn, 1) := by decide +kernel
theorem d_Mo_leave_52 : decode b_Mo_leave 52 = .ok (.aload_n 0, 1) := by decide +kernel
theorem d_Mo_leave_53 : decode b_Mo_leave 53 = .ok (.getfield 13, 3) := by decide +kernel
theorem d_Mo_leave_56 : decode b_Mo_leave 56 = .ok (.iload_n 1, 1) := by decide +kernel
theorem d_Mo_leave_57 : decode b_Mo_leave 57 = .ok (.iload_n 2, 1) := by decide +kernel
theorem d_Mo_leave_58 : decode b_Mo_leave 58 = .ok (.bastore, 1) := by decide +kernel
theorem d_Mo_leave_59 : decode b_Mo_leave 59 = .ok (.aload_n 0, 1) := by decide +kernel
theorem d_Mo_leave_60 : decode b_Mo_leave 60 = .ok (.invokevirtual 112, 3) := by decide +kernel
theorem d_Mo_leave_63 : decode b_Mo_leave 63 = .ok (.ireturn, 1) := by decide +kernel
theorem d_Mo_shorter_0 : decode b_Mo_shorter 0 = .ok (.aload_n 0, 1) := by decide +kernel
theorem d_Mo_shorter_1 : decode b_Mo_shorter 1 = .ok (.aload_n 0, 1) := by decide +kernel
theorem d_Mo_shorter_2 : decode b_Mo_shorter 2 = .ok (.invokevirtual 112, 3) := by decide +kernel
theorem d_Mo_shorter_5 : decode b_Mo_shorter 5 = .ok (.ifCond .eq 7, 3) := by decide +kernel
theorem d_Mo_shorter_8 : decode b_Mo_shorter 8 = .ok (.iconst 0, 1) := by decide +kernel
theorem d_Mo_shorter_9 : decode b_Mo_shorter 9 = .ok (.goto 4, 3) := by decide +kernel
theorem d_Mo_shorter_12 : decode b_Mo_shorter 12 = .ok (.iconst 1, 1) := by decide +kernel
theorem d_Mo_shorter_13 : decode b_Mo_shorter 13 = .ok (.putfield 52, 3) := by decide +kernel
theorem d_Mo_shorter_16 : decode b_Mo_shorter 16 = .ok (.aload_n 0, 1) := by decide +kernel
theorem d_Mo_shorter_17 : decode b_Mo_shorter 17 = .ok (.getfield 52, 3) := by decide +kernel
theorem d_Mo_shorter_20 : decode b_Mo_shorter 20 = .ok (.ifCond .le 5, 3) := by decide +kernel
theorem d_Mo_shorter_23 : decode b_Mo_shorter 23 = .ok (.iconst 0, 1) := by decide +kernel
theorem d_Mo_shorter_24 : decode b_Mo_shorter 24 = .ok (.ireturn, 1) := by decide +kernel
theorem d_Mo_shorter_25 : decode b_Mo_shorter 25 = .ok (.iconst (-1), 1) := by decide +kernel
theorem d_Mo_shorter_26 : decode b_Mo_shorter 26 = .ok (.istore_n 1, 1) := by decide +kernel
theorem d_Mo_shorter_27 : decode b_Mo_shorter 27 = .ok (.iload_n 1, 1) := by decide +kernel
theorem d_Mo_shorter_28 : decode b_Mo_shorter 28 = .ok (.aload_n 0, 1) := by decide +kernel
theorem d_Mo_shorter_29 : decode b_Mo_shorter 29 = .ok (.invokevirtual 116, 3) := by decide +kernel
theorem d_Mo_shorter_32 : decode b_Mo_shorter 32 = .ok (.if_icmp .eq 61, 3) := by decide +kernel
theorem d_Mo_shorter_35 : decode b_Mo_shorter 35 = .ok (.aload_n 0, 1) := by decide +kernel
theorem d_Mo_shorter_36 : decode b_Mo_shorter 36 = .ok (.invokevirtual 116, 3) := by decide +kernel
theorem d_Mo_shorter_39 : decode b_Mo_shorter 39 = .ok (.istore_n 1, 1) := by decide +kernel
theorem d_Mo_shorter_40 : decode b_Mo_shorter 40 = .ok (.aload_n 0, 1) := by decide +kernel
theorem d_Mo_shorter_41 : decode b_Mo_shorter 41 = .ok (.getfield 86, 3) := by decide +kernel
theorem d_Mo_shorter_44 : decode b_Mo_shorter 44 = .ok (.iconst 1, 1) := by decide +kernel
theorem d_Mo_shorter_45 : decode b_Mo_shorter 45 = .ok (.isub, 1) := by decide +kernel
theorem d_Mo_shorter_46 : decode b_Mo_shorter 46 = .ok (.istore_n 2, 1) := by decide +kernel
theorem d_Mo_shorter_47 : decode b_Mo_shorter 47 = .ok (.iload_n 2, 1) := by decide +kernel
theorem d_Mo_shorter_48 : decode b_Mo_shorter 48 = .ok (.ifCond .lt 42, 3) := by decide +kernel
theorem d_Mo_shorter_51 : decode b_Mo_shorter 51 = .ok (.aload_n 0, 1) := by decide +kernel
theorem d_Mo_shorter_52 : decode b_Mo_shorter 52 = .ok (.getfield 13, 3) := by decide +kernel
theorem d_Mo_shorter_55 : decode b_Mo_shorter 55 = .ok (.iload_n 2, 1) := by decide +kernel
theorem d_Mo_shorter_56 : decode b_Mo_shorter 56 = .ok (.baload, 1) := by decide +kernel
theorem d_Mo_shorter_57 : decode b_Mo_shorter 57 = .ok (.ifCond .eq 6, 3) := by decide +kernel
theorem d_Mo_shorter_60 : decode b_Mo_shorter 60 = .ok (.goto 24, 3) := by decide +kernel
theorem d_Mo_shorter_63 : decode b_Mo_shorter 63 = .ok (.aload_n 0, 1) := by decide +kernel
theorem d_Mo_shorter_64 : decode b_Mo_shorter 64 = .ok (.getfield 13, 3) := by decide +kernel
theorem d_Mo_shorter_67 : decode b_Mo_shorter 67 = .ok (.iload_n 2, 1) := by decide +kernel
theorem d_Mo_shorter_68 : decode b_Mo_shorter 68 = .ok (.iconst 1, 1) := by decide +kernel
theorem d_Mo_shorter_69 : decode b_Mo_shorter 69 = .ok (.bastore, 1) := by decide +kernel
theorem d_Mo_shorter_70 : decode b_Mo_shorter 70 = .ok (.aload_n 0, 1) := by decide +kernel
theorem d_Mo_shorter_71 : decode b_Mo_shorter 71 = .ok (.invokevirtual 112, 3) := by decide +kernel
theorem d_Mo_shorter_74 : decode b_Mo_shorter 74 = .ok (.ifCond .ne 10, 3) := by decide +kernel
theorem d_Mo_shorter_77 : decode b_Mo_shorter 77 = .ok (.aload_n 0, 1) := by decide +kernel
theorem d_Mo_shorter_78 : decode b_Mo_shorter 78 = .ok (.getfield 13, 3) := by decide +kernel
theorem d_Mo_shorter_81 : decode b_Mo_shorter 81 = .ok (.iload_n 2, 1) := by decide +kernel
theorem d_Mo_shorter_82 : decode b_Mo_shorter 82 = .ok (.iconst 0, 1) := by decide +kernel
theorem d_Mo_shorter_83 : decode b_Mo_shorter 83 = .ok (.bastore, 1) := by decide +kernel
theorem d_Mo_shorter_84 : decode b_Mo_shorter 84 = .ok (.iinc 2 (-1), 3) := by decide +kernel
theorem d_Mo_shorter_87 : decode b_Mo_shorter 87 = .ok (.goto (-40), 3) := by decide +kernel
theorem d_Mo_shorter_90 : decode b_Mo_shorter 90 = .ok (.goto (-63), 3) := by decide +kernel
theorem d_Mo_shorter_93 : decode b_Mo_shorter 93 = .ok (.iload_n 1, 1) := by decide +kernel
theorem d_Mo_shorter_94 : decode b_Mo_shorter 94 = .ok (.ireturn, 1) := by decide +kernel
theorem d_Mo_leftOnes_0 : decode b_Mo_leftOnes 0 = .ok (.iconst 0, 1) := by decide +kernel
theorem d_Mo_leftOnes_1 : decode b_Mo_leftOnes 1 = .ok (.istore_n 1, 1) := by decide +kernel
theorem d_Mo_leftOnes_2 : decode b_Mo_leftOnes 2 = .ok (.iconst 0, 1) := by decide +kernel
theorem d_Mo_leftOnes_3 : decode b_Mo_leftOnes 3 = .ok (.istore_n 2, 1) := by decide +kernel
theorem d_Mo_leftOnes_4 : decode b_Mo_leftOnes 4 = .ok (.iload_n 2, 1) := by decide +kernel
theorem d_Mo_leftOnes_5 : decode b_Mo_leftOnes 5 = .ok (.aload_n 0, 1) := by decide +kernel
theorem d_Mo_leftOnes_6 : decode b_Mo_leftOnes 6 = .ok (.getfield 86, 3) := by decide +kernel
theorem d_Mo_leftOnes_9 : decode b_Mo_leftOnes 9 = .ok (.if_icmp .ge 26, 3) := by decide +kernel
theorem d_Mo_leftOnes_12 : decode b_Mo_leftOnes 12 = .ok (.iload_n 1, 1) := by decide +kernel
theorem d_Mo_leftOnes_13 : decode b_Mo_leftOnes 13 = .ok (.aload_n 0, 1) := by decide +kernel
theorem d_Mo_leftOnes_14 : decode b_Mo_leftOnes 14 = .ok (.getfield 13, 3) := by decide +kernel
theorem d_Mo_leftOnes_17 : decode b_Mo_leftOnes 17 = .ok (.iload_n 2, 1) := by decide +kernel
theorem d_Mo_leftOnes_18 : decode b_Mo_leftOnes 18 = .ok (.baload, 1) := by decide +kernel
theorem d_Mo_leftOnes_19 : decode b_Mo_leftOnes 19 = .ok (.ifCond .eq 7, 3) := by decide +kernel
theorem d_Mo_leftOnes_22 : decode b_Mo_leftOnes 22 = .ok (.iconst 0, 1) := by decide +kernel
theorem d_Mo_leftOnes_23 : decode b_Mo_leftOnes 23 = .ok (.goto 4, 3) := by decide +kernel
theorem d_Mo_leftOnes_26 : decode b_Mo_leftOnes 26 = .ok (.iconst 1, 1) := by decide +kernel
theorem d_Mo_leftOnes_27 : decode b_Mo_leftOnes 27 = .ok (.iadd, 1) := by decide +kernel
theorem d_Mo_leftOnes_28 : decode b_Mo_leftOnes 28 = .ok (.istore_n 1, 1) := by decide +kernel
theorem d_Mo_leftOnes_29 : decode b_Mo_leftOnes 29 = .ok (.iinc 2 1, 3) := by decide +kernel
theorem d_Mo_leftOnes_32 : decode b_Mo_leftOnes 32 = .ok (.goto (-28), 3) := by decide +kernel
theorem d_Mo_leftOnes_35 : decode b_Mo_leftOnes 35 = .ok (.iload_n 1, 1) := by decide +kernel
theorem d_Mo_leftOnes_36 : decode b_Mo_leftOnes 36 = .ok (.ireturn, 1) := by decide +kernel
theorem d_Mo_minimal_0 : decode b_Mo_minimal 0 = .ok (.aload_n 0, 1) := by decide +kernel
theorem d_Mo_minimal_1 : decode b_Mo_minimal 1 = .ok (.iconst 0, 1) := by decide +kernel
theorem d_Mo_minimal_2 : decode b_Mo_minimal 2 = .ok (.putfield 52, 3) := by decide +kernel
theorem d_Mo_minimal_5 : decode b_Mo_minimal 5 = .ok (.aload_n 0, 1) := by decide +kernel
theorem d_Mo_minimal_6 : decode b_Mo_minimal 6 = .ok (.invokevirtual 112, 3) := by decide +kernel
theorem d_Mo_minimal_9 : decode b_Mo_minimal 9 = .ok (.istore_n 1, 1) := by decide +kernel
theorem d_Mo_minimal_10 : decode b_Mo_minimal 10 = .ok (.iconst 0, 1) := by decide +kernel
theorem d_Mo_minimal_11 : decode b_Mo_minimal 11 = .ok (.istore_n 2, 1) := by decide +kernel
theorem d_Mo_minimal_12 : decode b_Mo_minimal 12 = .ok (.iload_n 2, 1) := by decide +kernel
theorem d_Mo_minimal_13 : decode b_Mo_minimal 13 = .ok (.aload_n 0, 1) := by decide +kernel
theorem d_Mo_minimal_14 : decode b_Mo_minimal 14 = .ok (.getfield 86, 3) := by decide +kernel
theorem d_Mo_minimal_17 : decode b_Mo_minimal 17 = .ok (.if_icmp .ge 52, 3) := by decide +kernel
theorem d_Mo_minimal_20 : decode b_Mo_minimal 20 = .ok (.aload_n 0, 1) := by decide +kernel
theorem d_Mo_minimal_21 : decode b_Mo_minimal 21 = .ok (.getfield 13, 3) := by decide +kernel
theorem d_Mo_minimal_24 : decode b_Mo_minimal 24 = .ok (.iload_n 2, 1) := by decide +kernel
theorem d_Mo_minimal_25 : decode b_Mo_minimal 25 = .ok (.baload, 1) := by decide +kernel
theorem d_Mo_minimal_26 : decode b_Mo_minimal 26 = .ok (.ifCond .eq 6, 3) := by decide +kernel
theorem d_Mo_minimal_29 : decode b_Mo_minimal 29 = .ok (.goto 34, 3) := by decide +kernel
theorem d_Mo_minimal_32 : decode b_Mo_minimal 32 = .ok (.aload_n 0, 1) := by decide +kernel
theorem d_Mo_minimal_33 : decode b_Mo_minimal 33 = .ok (.getfield 13, 3) := by decide +kernel
theorem d_Mo_minimal_36 : decode b_Mo_minimal 36 = .ok (.iload_n 2, 1) := by decide +kernel
theorem d_Mo_minimal_37 : decode b_Mo_minimal 37 = .ok (.iconst 1, 1) := by decide +kernel
theorem d_Mo_minimal_38 : decode b_Mo_minimal 38 = .ok (.bastore, 1) := by decide +kernel
theorem d_Mo_minimal_39 : decode b_Mo_minimal 39 = .ok (.iload_n 1, 1) := by decide +kernel
theorem d_Mo_minimal_40 : decode b_Mo_minimal 40 = .ok (.ifCond .eq 14, 3) := by decide +kernel
theorem d_Mo_minimal_43 : decode b_Mo_minimal 43 = .ok (.aload_n 0, 1) := by decide +kernel
theorem d_Mo_minimal_44 : decode b_Mo_minimal 44 = .ok (.invokevirtual 112, 3) := by decide +kernel
theorem d_Mo_minimal_47 : decode b_Mo_minimal 47 = .ok (.ifCond .ne 7, 3) := by decide +kernel
theorem d_Mo_minimal_50 : decode b_Mo_minimal 50 = .ok (.iconst 1, 1) := by decide +kernel
theorem d_Mo_minimal_51 : decode b_Mo_minimal 51 = .ok (.goto 4, 3) := by decide +kernel
theorem d_Mo_minimal_54 : decode b_Mo_minimal 54 = .ok (.iconst 0, 1) := by decide +kernel
theorem d_Mo_minimal_55 : decode b_Mo_minimal 55 = .ok (.istore_n 1, 1) := by decide +kernel
theorem d_Mo_minimal_56 : decode b_Mo_minimal 56 = .ok (.aload_n 0, 1) := by decide +kernel
theorem d_Mo_minimal_57 : decode b_Mo_minimal 57 = .ok (.getfield 13, 3) := by decide +kernel
theorem d_Mo_minimal_60 : decode b_Mo_minimal 60 = .ok (.iload_n 2, 1) := by decide +kernel
theorem d_Mo_minimal_61 : decode b_Mo_minimal 61 = .ok (.iconst 0, 1) := by decide +kernel
theorem d_Mo_minimal_62 : decode b_Mo_minimal 62 = .ok (.bastore, 1) := by decide +kernel
theorem d_Mo_minimal_63 : decode b_Mo_minimal 63 = .ok (.iinc 2 1, 3) := by decide +kernel
theorem d_Mo_minimal_66 : decode b_Mo_minimal 66 = .ok (.goto (-54), 3) := by decide +kernel
theorem d_Mo_minimal_69 : decode b_Mo_minimal 69 = .ok (.iload_n 1, 1) := by decide +kernel
theorem d_Mo_minimal_70 : decode b_Mo_minimal 70 = .ok (.ireturn, 1) := by decide +kernel
theorem d_Mo_left_0 : decode b_Mo_left 0 = .ok (.aload_n 0, 1) := by decide +kernel
theorem d_Mo_left_1 : decode b_Mo_left 1 = .ok (.iload_n 1, 1) := by decide +kernel
theorem d_Mo_left_2 : decode b_Mo_left 2 = .ok (.iconst 0, 1) := by decide +kernel
theorem d_Mo_left_3 : decode b_Mo_left 3 = .ok (.aload_n 0, 1) := by decide +kernel
theorem d_Mo_left_4 : decode b_Mo_left 4 = .ok (.invokevirtual 116, 3) := by decide +kernel
theorem d_Mo_left_7 : decode b_Mo_left 7 = .ok (.iconst 1, 1) := by decide +kernel
theorem d_Mo_left_8 : decode b_Mo_left 8 = .ok (.isub, 1) := by decide +kernel
theorem d_Mo_left_9 : decode b_Mo_left 9 = .ok (.invokestatic 70, 3) := by decide +kernel
theorem d_Mo_left_12 : decode b_Mo_left 12 = .ok (.ifCond .eq 7, 3) := by decide +kernel
theorem d_Mo_left_15 : decode b_Mo_left 15 = .ok (.iconst 0, 1) := by decide +kernel
theorem d_Mo_left_16 : decode b_Mo_left 16 = .ok (.goto 4, 3) := by decide +kernel
theorem d_Mo_left_19 : decode b_Mo_left 19 = .ok (.iconst 1, 1) := by decide +kernel
theorem d_Mo_left_20 : decode b_Mo_left 20 = .ok (.putfield 52, 3) := by decide +kernel
theorem d_Mo_left_23 : decode b_Mo_left 23 = .ok (.aload_n 0, 1) := by decide +kernel
theorem d_Mo_left_24 : decode b_Mo_left 24 = .ok (.getfield 52, 3) := by decide +kernel
theorem d_Mo_left_27 : decode b_Mo_left 27 = .ok (.ifCond .le 5, 3) := by decide +kernel
theorem d_Mo_left_30 : decode b_Mo_left 30 = .ok (.iconst 0, 1) := by decide +kernel
theorem d_Mo_left_31 : decode b_Mo_left 31 = .ok (.ireturn, 1) := by decide +kernel
theorem d_Mo_left_32 : decode b_Mo_left 32 = .ok (.iconst (-1), 1) := by decide +kernel
theorem d_Mo_left_33 : decode b_Mo_left 33 = .ok (.istore_n 2, 1) := by decide +kernel
theorem d_Mo_left_34 : decode b_Mo_left 34 = .ok (.iconst (-1), 1) := by decide +kernel
theorem d_Mo_left_35 : decode b_Mo_left 35 = .ok (.istore_n 3, 1) := by decide +kernel
theorem d_Mo_left_36 : decode b_Mo_left 36 = .ok (.iload_n 2, 1) := by decide +kernel
theorem d_Mo_left_37 : decode b_Mo_left 37 = .ok (.iload_n 1, 1) := by decide +kernel
theorem d_Mo_left_38 : decode b_Mo_left 38 = .ok (.if_icmp .ge 26, 3) := by decide +kernel
theorem d_Mo_left_41 : decode b_Mo_left 41 = .ok (.iinc 3 1, 3) := by decide +kernel
theorem d_Mo_left_44 : decode b_Mo_left 44 = .ok (.iload_n 2, 1) := by decide +kernel
theorem d_Mo_left_45 : decode b_Mo_left 45 = .ok (.aload_n 0, 1) := by decide +kernel
theorem d_Mo_left_46 : decode b_Mo_left 46 = .ok (.getfield 13, 3) := by decide +kernel
theorem d_Mo_left_49 : decode b_Mo_left 49 = .ok (.iload_n 3, 1) := by decide +kernel
theorem d_Mo_left_50 : decode b_Mo_left 50 = .ok (.baload, 1) := by decide +kernel
theorem d_Mo_left_51 : decode b_Mo_left 51 = .ok (.ifCond .eq 7, 3) := by decide +kernel
theorem d_Mo_left_54 : decode b_Mo_left 54 = .ok (.iconst 0, 1) := by decide +kernel
theorem d_Mo_left_55 : decode b_Mo_left 55 = .ok (.goto 4, 3) := by decide +kernel
theorem d_Mo_left_58 : decode b_Mo_left 58 = .ok (.iconst 1, 1) := by decide +kernel
theorem d_Mo_left_59 : decode b_Mo_left 59 = .ok (.iadd, 1) := by decide +kernel
theorem d_Mo_left_60 : decode b_Mo_left 60 = .ok (.istore_n 2, 1) := by decide +kernel
theorem d_Mo_left_61 : decode b_Mo_left 61 = .ok (.goto (-25), 3) := by decide +kernel
theorem d_Mo_left_64 : decode b_Mo_left 64 = .ok (.iload_n 3, 1) := by decide +kernel
theorem d_Mo_left_65 : decode b_Mo_left 65 = .ok (.ireturn, 1) := by decide +kernel
theorem d_Mo_whole_0 : decode b_Mo_whole 0 = .ok (.aload_n 0, 1) := by decide +kernel
theorem d_Mo_whole_1 : decode b_Mo_whole 1 = .ok (.iconst 0, 1) := by decide +kernel
theorem d_Mo_whole_2 : decode b_Mo_whole 2 = .ok (.putfield 52, 3) := by decide +kernel
theorem d_Mo_whole_5 : decode b_Mo_whole 5 = .ok (.aload_n 0, 1) := by decide +kernel
theorem d_Mo_whole_6 : decode b_Mo_whole 6 = .ok (.getfield 86, 3) := by decide +kernel
theorem d_Mo_whole_9 : decode b_Mo_whole 9 = .ok (.aload_n 0, 1) := by decide +kernel
theorem d_Mo_whole_10 : decode b_Mo_whole 10 = .ok (.invokevirtual 116, 3) := by decide +kernel
theorem d_Mo_whole_13 : decode b_Mo_whole 13 = .ok (.isub, 1) := by decide +kernel
theorem d_Mo_whole_14 : decode b_Mo_whole 14 = .ok (.istore_n 1, 1) := by decide +kernel
theorem d_Mo_whole_15 : decode b_Mo_whole 15 = .ok (.iconst 0, 1) := by decide +kernel
theorem d_Mo_whole_16 : decode b_Mo_whole 16 = .ok (.istore_n 2, 1) := by decide +kernel
theorem d_Mo_whole_17 : decode b_Mo_whole 17 = .ok (.iload_n 2, 1) := by decide +kernel
theorem d_Mo_whole_18 : decode b_Mo_whole 18 = .ok (.aload_n 0, 1) := by decide +kernel
theorem d_Mo_whole_19 : decode b_Mo_whole 19 = .ok (.getfield 86, 3) := by decide +kernel
theorem d_Mo_whole_22 : decode b_Mo_whole 22 = .ok (.if_icmp .ge 16, 3) := by decide +kernel
theorem d_Mo_whole_25 : decode b_Mo_whole 25 = .ok (.aload_n 0, 1) := by decide +kernel
theorem d_Mo_whole_26 : decode b_Mo_whole 26 = .ok (.getfield 13, 3) := by decide +kernel
theorem d_Mo_whole_29 : decode b_Mo_whole 29 = .ok (.iload_n 2, 1) := by decide +kernel
theorem d_Mo_whole_30 : decode b_Mo_whole 30 = .ok (.iconst 0, 1) := by decide +kernel
theorem d_Mo_whole_31 : decode b_Mo_whole 31 = .ok (.bastore, 1) := by decide +kernel
theorem d_Mo_whole_32 : decode b_Mo_whole 32 = .ok (.iinc 2 1, 3) := by decide +kernel
theorem d_Mo_whole_35 : decode b_Mo_whole 35 = .ok (.goto (-18), 3) := by decide +kernel
theorem d_Mo_whole_38 : decode b_Mo_whole 38 = .ok (.iload_n 1, 1) := by decide +kernel
theorem d_Mo_whole_39 : decode b_Mo_whole 39 = .ok (.ireturn, 1) := by decide +kernel
theorem d_Mo_pieces_0 : decode b_Mo_pieces 0 = .ok (.aload_n 0, 1) := by decide +kernel
theorem d_Mo_pieces_1 : decode b_Mo_pieces 1 = .ok (.iload_n 1, 1) := by decide +kernel
theorem d_Mo_pieces_2 : decode b_Mo_pieces 2 = .ok (.iconst 0, 1) := by decide +kernel
theorem d_Mo_pieces_3 : decode b_Mo_pieces 3 = .ok (.aload_n 0, 1) := by decide +kernel
theorem d_Mo_pieces_4 : decode b_Mo_pieces 4 = .ok (.getfield 77, 3) := by decide +kernel
theorem d_Mo_pieces_7 : decode b_Mo_pieces 7 = .ok (.iconst 1, 1) := by decide +kernel
theorem d_Mo_pieces_8 : decode b_Mo_pieces 8 = .ok (.isub, 1) := by decide +kernel
theorem d_Mo_pieces_9 : decode b_Mo_pieces 9 = .ok (.invokestatic 70, 3) := by decide +kernel
theorem d_Mo_pieces_12 : decode b_Mo_pieces 12 = .ok (.ifCond .eq 21, 3) := by decide +kernel
theorem d_Mo_pieces_15 : decode b_Mo_pieces 15 = .ok (.iload_n 2, 1) := by decide +kernel
theorem d_Mo_pieces_16 : decode b_Mo_pieces 16 = .ok (.iconst 0, 1) := by decide +kernel
theorem d_Mo_pieces_17 : decode b_Mo_pieces 17 = .ok (.aload_n 0, 1) := by decide +kernel
theorem d_Mo_pieces_18 : decode b_Mo_pieces 18 = .ok (.getfield 80, 3) := by decide +kernel
theorem d_Mo_pieces_21 : decode b_Mo_pieces 21 = .ok (.iconst 1, 1) := by decide +kernel
theorem d_Mo_pieces_22 : decode b_Mo_pieces 22 = .ok (.isub, 1) := by decide +kernel
theorem d_Mo_pieces_23 : decode b_Mo_pieces 23 = .ok (.invokestatic 70, 3) := by decide +kernel
theorem d_Mo_pieces_26 : decode b_Mo_pieces 26 = .ok (.ifCond .eq 7, 3) := by decide +kernel
theorem d_Mo_pieces_29 : decode b_Mo_pieces 29 = .ok (.iconst 0, 1) := by decide +kernel
theorem d_Mo_pieces_30 : decode b_Mo_pieces 30 = .ok (.goto 4, 3) := by decide +kernel
theorem d_Mo_pieces_33 : decode b_Mo_pieces 33 = .ok (.iconst 1, 1) := by decide +kernel
theorem d_Mo_pieces_34 : decode b_Mo_pieces 34 = .ok (.putfield 52, 3) := by decide +kernel
theorem d_Mo_pieces_37 : decode b_Mo_pieces 37 = .ok (.aload_n 0, 1) := by decide +kernel
theorem d_Mo_pieces_38 : decode b_Mo_pieces 38 = .ok (.getfield 52, 3) := by decide +kernel
theorem d_Mo_pieces_41 : decode b_Mo_pieces 41 = .ok (.ifCond .le 5, 3) := by decide +kernel
theorem d_Mo_pieces_44 : decode b_Mo_pieces 44 = .ok (.iconst 0, 1) := by decide +kernel
theorem d_Mo_pieces_45 : decode b_Mo_pieces 45 = .ok (.ireturn, 1) := by decide +kernel
theorem d_Mo_pieces_46 : decode b_Mo_pieces 46 = .ok (.aload_n 0, 1) := by decide +kernel
theorem d_Mo_pieces_47 : decode b_Mo_pieces 47 = .ok (.invokevirtual 108, 3) := by decide +kernel
theorem d_Mo_pieces_50 : decode b_Mo_pieces 50 = .ok (.pop, 1) := by decide +kernel
theorem d_Mo_pieces_51 : decode b_Mo_pieces 51 = .ok (.aload_n 0, 1) := by decide +kernel
theorem d_Mo_pieces_52 : decode b_Mo_pieces 52 = .ok (.getfield 42, 3) := by decide +kernel
theorem d_Mo_pieces_55 : decode b_Mo_pieces 55 = .ok (.bipush 8, 2) := by decide +kernel
theorem d_Mo_pieces_57 : decode b_Mo_pieces 57 = .ok (.iload_n 1, 1) := by decide +kernel
theorem d_Mo_pieces_58 : decode b_Mo_pieces 58 = .ok (.imul, 1) := by decide +kernel
theorem d_Mo_pieces_59 : decode b_Mo_pieces 59 = .ok (.iload_n 2, 1) := by decide +kernel
theorem d_Mo_pieces_60 : decode b_Mo_pieces 60 = .ok (.iadd, 1) := by decide +kernel
theorem d_Mo_pieces_61 : decode b_Mo_pieces 61 = .ok (.iaload, 1) := by decide +kernel
theorem d_Mo_pieces_62 : decode b_Mo_pieces 62 = .ok (.ireturn, 1) := by decide +kernel
theorem d_Mo_most_0 : decode b_Mo_most 0 = .ok (.aload_n 0, 1) := by decide +kernel
theorem d_Mo_most_1 : decode b_Mo_most 1 = .ok (.iload_n 1, 1) := by decide +kernel
theorem d_Mo_most_2 : decode b_Mo_most 2 = .ok (.iconst 0, 1) := by decide +kernel
theorem d_Mo_most_3 : decode b_Mo_most 3 = .ok (.aload_n 0, 1) := by decide +kernel
theorem d_Mo_most_4 : decode b_Mo_most 4 = .ok (.getfield 77, 3) := by decide +kernel
theorem d_Mo_most_7 : decode b_Mo_most 7 = .ok (.iconst 1, 1) := by decide +kernel
theorem d_Mo_most_8 : decode b_Mo_most 8 = .ok (.isub, 1) := by decide +kernel
theorem d_Mo_most_9 : decode b_Mo_most 9 = .ok (.invokestatic 70, 3) := by decide +kernel
theorem d_Mo_most_12 : decode b_Mo_most 12 = .ok (.ifCond .eq 7, 3) := by decide +kernel
theorem d_Mo_most_15 : decode b_Mo_most 15 = .ok (.iconst 0, 1) := by decide +kernel
theorem d_Mo_most_16 : decode b_Mo_most 16 = .ok (.goto 4, 3) := by decide +kernel
theorem d_Mo_most_19 : decode b_Mo_most 19 = .ok (.iconst 1, 1) := by decide +kernel
theorem d_Mo_most_20 : decode b_Mo_most 20 = .ok (.putfield 52, 3) := by decide +kernel
theorem d_Mo_most_23 : decode b_Mo_most 23 = .ok (.aload_n 0, 1) := by decide +kernel
theorem d_Mo_most_24 : decode b_Mo_most 24 = .ok (.getfield 52, 3) := by decide +kernel
theorem d_Mo_most_27 : decode b_Mo_most 27 = .ok (.ifCond .le 5, 3) := by decide +kernel
theorem d_Mo_most_30 : decode b_Mo_most 30 = .ok (.iconst 0, 1) := by decide +kernel
theorem d_Mo_most_31 : decode b_Mo_most 31 = .ok (.ireturn, 1) := by decide +kernel
theorem d_Mo_most_32 : decode b_Mo_most 32 = .ok (.aload_n 0, 1) := by decide +kernel
theorem d_Mo_most_33 : decode b_Mo_most 33 = .ok (.invokevirtual 108, 3) := by decide +kernel
theorem d_Mo_most_36 : decode b_Mo_most 36 = .ok (.pop, 1) := by decide +kernel
theorem d_Mo_most_37 : decode b_Mo_most 37 = .ok (.aload_n 0, 1) := by decide +kernel
theorem d_Mo_most_38 : decode b_Mo_most 38 = .ok (.getfield 45, 3) := by decide +kernel
theorem d_Mo_most_41 : decode b_Mo_most 41 = .ok (.iload_n 1, 1) := by decide +kernel
theorem d_Mo_most_42 : decode b_Mo_most 42 = .ok (.iaload, 1) := by decide +kernel
theorem d_Mo_most_43 : decode b_Mo_most 43 = .ok (.ireturn, 1) := by decide +kernel
theorem d_Mo_same_0 : decode b_Mo_same 0 = .ok (.aload_n 0, 1) := by decide +kernel
theorem d_Mo_same_1 : decode b_Mo_same 1 = .ok (.iload_n 3, 1) := by decide +kernel
theorem d_Mo_same_2 : decode b_Mo_same 2 = .ok (.iconst 0, 1) := by decide +kernel
theorem d_Mo_same_3 : decode b_Mo_same 3 = .ok (.iconst 5, 1) := by decide +kernel
theorem d_Mo_same_4 : decode b_Mo_same 4 = .ok (.invokestatic 70, 3) := by decide +kernel
theorem d_Mo_same_7 : decode b_Mo_same 7 = .ok (.ifCond .eq 7, 3) := by decide +kernel
theorem d_Mo_same_10 : decode b_Mo_same 10 = .ok (.iconst 0, 1) := by decide +kernel
theorem d_Mo_same_11 : decode b_Mo_same 11 = .ok (.goto 4, 3) := by decide +kernel
theorem d_Mo_same_14 : decode b_Mo_same 14 = .ok (.iconst 1, 1) := by decide +kernel
theorem d_Mo_same_15 : decode b_Mo_same 15 = .ok (.putfield 52, 3) := by decide +kernel
theorem d_Mo_same_18 : decode b_Mo_same 18 = .ok (.aload_n 0, 1) := by decide +kernel
theorem d_Mo_same_19 : decode b_Mo_same 19 = .ok (.getfield 52, 3) := by decide +kernel
theorem d_Mo_same_22 : decode b_Mo_same 22 = .ok (.ifCond .le 5, 3) := by decide +kernel
theorem d_Mo_same_25 : decode b_Mo_same 25 = .ok (.iconst 0, 1) := by decide +kernel
theorem d_Mo_same_26 : decode b_Mo_same 26 = .ok (.ireturn, 1) := by decide +kernel
theorem d_Mo_same_27 : decode b_Mo_same 27 = .ok (.aload_n 0, 1) := by decide +kernel
theorem d_Mo_same_28 : decode b_Mo_same 28 = .ok (.getfield 48, 3) := by decide +kernel
theorem d_Mo_same_31 : decode b_Mo_same 31 = .ok (.lstore 4, 2) := by decide +kernel
theorem d_Mo_same_33 : decode b_Mo_same 33 = .ok (.aload_n 0, 1) := by decide +kernel
theorem d_Mo_same_34 : decode b_Mo_same 34 = .ok (.lload_n 1, 1) := by decide +kernel
theorem d_Mo_same_35 : decode b_Mo_same 35 = .ok (.putfield 48, 3) := by decide +kernel
theorem d_Mo_same_38 : decode b_Mo_same 38 = .ok (.aload_n 0, 1) := by decide +kernel
theorem d_Mo_same_39 : decode b_Mo_same 39 = .ok (.iload_n 3, 1) := by decide +kernel
theorem d_Mo_same_40 : decode b_Mo_same 40 = .ok (.invokevirtual 74, 3) := by decide +kernel
theorem d_Mo_same_43 : decode b_Mo_same 43 = .ok (.aload_n 0, 1) := by decide +kernel
theorem d_Mo_same_44 : decode b_Mo_same 44 = .ok (.lload 4, 2) := by decide +kernel
theorem d_Mo_same_46 : decode b_Mo_same 46 = .ok (.putfield 48, 3) := by decide +kernel
theorem d_Mo_same_49 : decode b_Mo_same 49 = .ok (.aload_n 0, 1) := by decide +kernel
theorem d_Mo_same_50 : decode b_Mo_same 50 = .ok (.invokevirtual 119, 3) := by decide +kernel
theorem d_Mo_same_53 : decode b_Mo_same 53 = .ok (.ireturn, 1) := by decide +kernel
theorem d_Mo_isAlike_0 : decode b_Mo_isAlike 0 = .ok (.aload_n 0, 1) := by decide +kernel
theorem d_Mo_isAlike_1 : decode b_Mo_isAlike 1 = .ok (.getfield 9, 3) := by decide +kernel
theorem d_Mo_isAlike_4 : decode b_Mo_isAlike 4 = .ok (.iconst (-1), 1) := by decide +kernel
theorem d_Mo_isAlike_5 : decode b_Mo_isAlike 5 = .ok (.if_icmp .eq 16, 3) := by decide +kernel
theorem d_Mo_isAlike_8 : decode b_Mo_isAlike 8 = .ok (.aload_n 0, 1) := by decide +kernel
theorem d_Mo_isAlike_9 : decode b_Mo_isAlike 9 = .ok (.getfield 39, 3) := by decide +kernel
theorem d_Mo_isAlike_12 : decode b_Mo_isAlike 12 = .ok (.iconst 0, 1) := by decide +kernel
theorem d_Mo_isAlike_13 : decode b_Mo_isAlike 13 = .ok (.iaload, 1) := by decide +kernel
theorem d_Mo_isAlike_14 : decode b_Mo_isAlike 14 = .ok (.aload_n 0, 1) := by decide +kernel
theorem d_Mo_isAlike_15 : decode b_Mo_isAlike 15 = .ok (.getfield 77, 3) := by decide +kernel
theorem d_Mo_isAlike_18 : decode b_Mo_isAlike 18 = .ok (.if_icmp .eq 5, 3) := by decide +kernel
theorem d_Mo_isAlike_21 : decode b_Mo_isAlike 21 = .ok (.iconst 0, 1) := by decide +kernel
theorem d_Mo_isAlike_22 : decode b_Mo_isAlike 22 = .ok (.ireturn, 1) := by decide +kernel
theorem d_Mo_isAlike_23 : decode b_Mo_isAlike 23 = .ok (.iconst 0, 1) := by decide +kernel
theorem d_Mo_isAlike_24 : decode b_Mo_isAlike 24 = .ok (.istore_n 1, 1) := by decide +kernel
theorem d_Mo_isAlike_25 : decode b_Mo_isAlike 25 = .ok (.iload_n 1, 1) := by decide +kernel
theorem d_Mo_isAlike_26 : decode b_Mo_isAlike 26 = .ok (.aload_n 0, 1) := by decide +kernel
theorem d_Mo_isAlike_27 : decode b_Mo_isAlike 27 = .ok (.getfield 77, 3) := by decide +kernel
theorem d_Mo_isAlike_30 : decode b_Mo_isAlike 30 = .ok (.if_icmp .ge 28, 3) := by decide +kernel
theorem d_Mo_isAlike_33 : decode b_Mo_isAlike 33 = .ok (.aload_n 0, 1) := by decide +kernel
theorem d_Mo_isAlike_34 : decode b_Mo_isAlike 34 = .ok (.getfield 39, 3) := by decide +kernel
theorem d_Mo_isAlike_37 : decode b_Mo_isAlike 37 = .ok (.iconst 1, 1) := by decide +kernel
theorem d_Mo_isAlike_38 : decode b_Mo_isAlike 38 = .ok (.iload_n 1, 1) := by decide +kernel
theorem d_Mo_isAlike_39 : decode b_Mo_isAlike 39 = .ok (.iadd, 1) := by decide +kernel
theorem d_Mo_isAlike_40 : decode b_Mo_isAlike 40 = .ok (.iaload, 1) := by decide +kernel
theorem d_Mo_isAlike_41 : decode b_Mo_isAlike 41 = .ok (.aload_n 0, 1) := by decide +kernel
theorem d_Mo_isAlike_42 : decode b_Mo_isAlike 42 = .ok (.getfield 17, 3) := by decide +kernel
theorem d_Mo_isAlike_45 : decode b_Mo_isAlike 45 = .ok (.iload_n 1, 1) := by decide +kernel
theorem d_Mo_isAlike_46 : decode b_Mo_isAlike 46 = .ok (.iaload, 1) := by decide +kernel
theorem d_Mo_isAlike_47 : decode b_Mo_isAlike 47 = .ok (.if_icmp .eq 5, 3) := by decide +kernel
theorem d_Mo_isAlike_50 : decode b_Mo_isAlike 50 = .ok (.iconst 0, 1) := by decide +kernel
theorem d_Mo_isAlike_51 : decode b_Mo_isAlike 51 = .ok (.ireturn, 1) := by decide +kernel
theorem d_Mo_isAlike_52 : decode b_Mo_isAlike 52 = .ok (.iinc 1 1, 3) := by decide +kernel
theorem d_Mo_isAlike_55 : decode b_Mo_isAlike 55 = .ok (.goto (-30), 3) := by decide +kernel
theorem d_Mo_isAlike_58 : decode b_Mo_isAlike 58 = .ok (.aload_n 0, 1) := by decide +kernel
theorem d_Mo_isAlike_59 : decode b_Mo_isAlike 59 = .ok (.getfield 77, 3) := by decide +kernel
theorem d_Mo_isAlike_62 : decode b_Mo_isAlike 62 = .ok (.iconst 1, 1) := by decide +kernel
theorem d_Mo_isAlike_63 : decode b_Mo_isAlike 63 = .ok (.iadd, 1) := by decide +kernel
theorem d_Mo_isAlike_64 : decode b_Mo_isAlike 64 = .ok (.istore_n 1, 1) := by decide +kernel
theorem d_Mo_isAlike_65 : decode b_Mo_isAlike 65 = .ok (.aload_n 0, 1) := by decide +kernel
theorem d_Mo_isAlike_66 : decode b_Mo_isAlike 66 = .ok (.getfield 39, 3) := by decide +kernel
theorem d_Mo_isAlike_69 : decode b_Mo_isAlike 69 = .ok (.iload_n 1, 1) := by decide +kernel
theorem d_Mo_isAlike_70 : decode b_Mo_isAlike 70 = .ok (.iaload, 1) := by decide +kernel
theorem d_Mo_isAlike_71 : decode b_Mo_isAlike 71 = .ok (.aload_n 0, 1) := by decide +kernel
theorem d_Mo_isAlike_72 : decode b_Mo_isAlike 72 = .ok (.getfield 80, 3) := by decide +kernel
theorem d_Mo_isAlike_75 : decode b_Mo_isAlike 75 = .ok (.if_icmp .eq 5, 3) := by decide +kernel
theorem d_Mo_isAlike_78 : decode b_Mo_isAlike 78 = .ok (.iconst 0, 1) := by decide +kernel
theorem d_Mo_isAlike_79 : decode b_Mo_isAlike 79 = .ok (.ireturn, 1) := by decide +kernel
theorem d_Mo_isAlike_80 : decode b_Mo_isAlike 80 = .ok (.iconst 0, 1) := by decide +kernel
theorem d_Mo_isAlike_81 : decode b_Mo_isAlike 81 = .ok (.istore_n 2, 1) := by decide +kernel
theorem d_Mo_isAlike_82 : decode b_Mo_isAlike 82 = .ok (.iload_n 2, 1) := by decide +kernel
theorem d_Mo_isAlike_83 : decode b_Mo_isAlike 83 = .ok (.aload_n 0, 1) := by decide +kernel
theorem d_Mo_isAlike_84 : decode b_Mo_isAlike 84 = .ok (.getfield 80, 3) := by decide +kernel
theorem d_Mo_isAlike_87 : decode b_Mo_isAlike 87 = .ok (.if_icmp .ge 30, 3) := by decide +kernel
theorem d_Mo_isAlike_90 : decode b_Mo_isAlike 90 = .ok (.aload_n 0, 1) := by decide +kernel
theorem d_Mo_isAlike_91 : decode b_Mo_isAlike 91 = .ok (.getfield 39, 3) := by decide +kernel
theorem d_Mo_isAlike_94 : decode b_Mo_isAlike 94 = .ok (.iload_n 1, 1) := by decide +kernel
theorem d_Mo_isAlike_95 : decode b_Mo_isAlike 95 = .ok (.iconst 1, 1) := by decide +kernel
theorem d_Mo_isAlike_96 : decode b_Mo_isAlike 96 = .ok (.iadd, 1) := by decide +kernel
theorem d_Mo_isAlike_97 : decode b_Mo_isAlike 97 = .ok (.iload_n 2, 1) := by decide +kernel
theorem d_Mo_isAlike_98 : decode b_Mo_isAlike 98 = .ok (.iadd, 1) := by decide +kernel
theorem d_Mo_isAlike_99 : decode b_Mo_isAlike 99 = .ok (.iaload, 1) := by decide +kernel
theorem d_Mo_isAlike_100 : decode b_Mo_isAlike 100 = .ok (.aload_n 0, 1) := by decide +kernel
theorem d_Mo_isAlike_101 : decode b_Mo_isAlike 101 = .ok (.getfield 21, 3) := by decide +kernel
theorem d_Mo_isAlike_104 : decode b_Mo_isAlike 104 = .ok (.iload_n 2, 1) := by decide +kernel
theorem d_Mo_isAlike_105 : decode b_Mo_isAlike 105 = .ok (.iaload, 1) := by decide +kernel
theorem d_Mo_isAlike_106 : decode b_Mo_isAlike 106 = .ok (.if_icmp .eq 5, 3) := by decide +kernel
theorem d_Mo_isAlike_109 : decode b_Mo_isAlike 109 = .ok (.iconst 0, 1) := by decide +kernel
theorem d_Mo_isAlike_110 : decode b_Mo_isAlike 110 = .ok (.ireturn, 1) := by decide +kernel
theorem d_Mo_isAlike_111 : decode b_Mo_isAlike 111 = .ok (.iinc 2 1, 3) := by decide +kernel
theorem d_Mo_isAlike_114 : decode b_Mo_isAlike 114 = .ok (.goto (-32), 3) := by decide +kernel
theorem d_Mo_isAlike_117 : decode b_Mo_isAlike 117 = .ok (.iload_n 1, 1) := by decide +kernel
theorem d_Mo_isAlike_118 : decode b_Mo_isAlike 118 = .ok (.aload_n 0, 1) := by decide +kernel
theorem d_Mo_isAlike_119 : decode b_Mo_isAlike 119 = .ok (.getfield 80, 3) := by decide +kernel
theorem d_Mo_isAlike_122 : decode b_Mo_isAlike 122 = .ok (.iconst 1, 1) := by decide +kernel
theorem d_Mo_isAlike_123 : decode b_Mo_isAlike 123 = .ok (.iadd, 1) := by decide +kernel
theorem d_Mo_isAlike_124 : decode b_Mo_isAlike 124 = .ok (.iadd, 1) := by decide +kernel
theorem d_Mo_isAlike_125 : decode b_Mo_isAlike 125 = .ok (.istore_n 1, 1) := by decide +kernel
theorem d_Mo_isAlike_126 : decode b_Mo_isAlike 126 = .ok (.aload_n 0, 1) := by decide +kernel
theorem d_Mo_isAlike_127 : decode b_Mo_isAlike 127 = .ok (.getfield 39, 3) := by decide +kernel
theorem d_Mo_isAlike_130 : decode b_Mo_isAlike 130 = .ok (.iload_n 1, 1) := by decide +kernel
theorem d_Mo_isAlike_131 : decode b_Mo_isAlike 131 = .ok (.iaload, 1) := by decide +kernel
theorem d_Mo_isAlike_132 : decode b_Mo_isAlike 132 = .ok (.aload_n 0, 1) := by decide +kernel
theorem d_Mo_isAlike_133 : decode b_Mo_isAlike 133 = .ok (.getfield 83, 3) := by decide +kernel
theorem d_Mo_isAlike_136 : decode b_Mo_isAlike 136 = .ok (.if_icmp .eq 5, 3) := by decide +kernel
theorem d_Mo_isAlike_139 : decode b_Mo_isAlike 139 = .ok (.iconst 0, 1) := by decide +kernel
theorem d_Mo_isAlike_140 : decode b_Mo_isAlike 140 = .ok (.ireturn, 1) := by decide +kernel
theorem d_Mo_isAlike_141 : decode b_Mo_isAlike 141 = .ok (.iinc 1 1, 3) := by decide +kernel
theorem d_Mo_isAlike_144 : decode b_Mo_isAlike 144 = .ok (.iconst 0, 1) := by decide +kernel
theorem d_Mo_isAlike_145 : decode b_Mo_isAlike 145 = .ok (.istore_n 2, 1) := by decide +kernel
theorem d_Mo_isAlike_146 : decode b_Mo_isAlike 146 = .ok (.iload_n 2, 1) := by decide +kernel
theorem d_Mo_isAlike_147 : decode b_Mo_isAlike 147 = .ok (.aload_n 0, 1) := by decide +kernel
theorem d_Mo_isAlike_148 : decode b_Mo_isAlike 148 = .ok (.getfield 83, 3) := by decide +kernel
theorem d_Mo_isAlike_151 : decode b_Mo_isAlike 151 = .ok (.if_icmp .ge 115, 3) := by decide +kernel
theorem d_Mo_isAlike_154 : decode b_Mo_isAlike 154 = .ok (.aload_n 0, 1) := by decide +kernel
theorem d_Mo_isAlike_155 : decode b_Mo_isAlike 155 = .ok (.getfield 39, 3) := by decide +kernel
theorem d_Mo_isAlike_158 : decode b_Mo_isAlike 158 = .ok (.iload_n 1, 1) := by decide +kernel
theorem d_Mo_isAlike_159 : decode b_Mo_isAlike 159 = .ok (.iaload, 1) := by decide +kernel
theorem d_Mo_isAlike_160 : decode b_Mo_isAlike 160 = .ok (.aload_n 0, 1) := by decide +kernel
theorem d_Mo_isAlike_161 : decode b_Mo_isAlike 161 = .ok (.getfield 24, 3) := by decide +kernel
theorem d_Mo_isAlike_164 : decode b_Mo_isAlike 164 = .ok (.iload_n 2, 1) := by decide +kernel
theorem d_Mo_isAlike_165 : decode b_Mo_isAlike 165 = .ok (.iaload, 1) := by decide +kernel
theorem d_Mo_isAlike_166 : decode b_Mo_isAlike 166 = .ok (.if_icmp .ne 89, 3) := by decide +kernel
theorem d_Mo_isAlike_169 : decode b_Mo_isAlike 169 = .ok (.aload_n 0, 1) := by decide +kernel
theorem d_Mo_isAlike_170 : decode b_Mo_isAlike 170 = .ok (.getfield 39, 3) := by decide +kernel
theorem d_Mo_isAlike_173 : decode b_Mo_isAlike 173 = .ok (.iload_n 1, 1) := by decide +kernel
theorem d_Mo_isAlike_174 : decode b_Mo_isAlike 174 = .ok (.iconst 1, 1) := by decide +kernel
theorem d_Mo_isAlike_175 : decode b_Mo_isAlike 175 = .ok (.iadd, 1) := by decide +kernel
theorem d_Mo_isAlike_176 : decode b_Mo_isAlike 176 = .ok (.iaload, 1) := by decide +kernel
theorem d_Mo_isAlike_177 : decode b_Mo_isAlike 177 = .ok (.aload_n 0, 1) := by decide +kernel
theorem d_Mo_isAlike_178 : decode b_Mo_isAlike 178 = .ok (.getfield 27, 3) := by decide +kernel
theorem d_Mo_isAlike_181 : decode b_Mo_isAlike 181 = .ok (.iload_n 2, 1) := by decide +kernel
theorem d_Mo_isAlike_182 : decode b_Mo_isAlike 182 = .ok (.iaload, 1) := by decide +kernel
theorem d_Mo_isAlike_183 : decode b_Mo_isAlike 183 = .ok (.if_icmp .ne 72, 3) := by decide +kernel
theorem d_Mo_isAlike_186 : decode b_Mo_isAlike 186 = .ok (.aload_n 0, 1) := by decide +kernel
theorem d_Mo_isAlike_187 : decode b_Mo_isAlike 187 = .ok (.getfield 39, 3) := by decide +kernel
theorem d_Mo_isAlike_190 : decode b_Mo_isAlike 190 = .ok (.iload_n 1, 1) := by decide +kernel
theorem d_Mo_isAlike_191 : decode b_Mo_isAlike 191 = .ok (.iconst 2, 1) := by decide +kernel
theorem d_Mo_isAlike_192 : decode b_Mo_isAlike 192 = .ok (.iadd, 1) := by decide +kernel
theorem d_Mo_isAlike_193 : decode b_Mo_isAlike 193 = .ok (.iaload, 1) := by decide +kernel
theorem d_Mo_isAlike_194 : decode b_Mo_isAlike 194 = .ok (.aload_n 0, 1) := by decide +kernel
theorem d_Mo_isAlike_195 : decode b_Mo_isAlike 195 = .ok (.getfield 30, 3) := by decide +kernel
theorem d_Mo_isAlike_198 : decode b_Mo_isAlike 198 = .ok (.iload_n 2, 1) := by decide +kernel
theorem d_Mo_isAlike_199 : decode b_Mo_isAlike 199 = .ok (.iaload, 1) := by decide +kernel
theorem d_Mo_isAlike_200 : decode b_Mo_isAlike 200 = .ok (.if_icmp .ne 55, 3) := by decide +kernel
theorem d_Mo_isAlike_203 : decode b_Mo_isAlike 203 = .ok (.aload_n 0, 1) := by decide +kernel
theorem d_Mo_isAlike_204 : decode b_Mo_isAlike 204 = .ok (.getfield 39, 3) := by decide +kernel
theorem d_Mo_isAlike_207 : decode b_Mo_isAlike 207 = .ok (.iload_n 1, 1) := by decide +kernel
theorem d_Mo_isAlike_208 : decode b_Mo_isAlike 208 = .ok (.iconst 3, 1) := by decide +kernel
theorem d_Mo_isAlike_209 : decode b_Mo_isAlike 209 = .ok (.iadd, 1) := by decide +kernel
theorem d_Mo_isAlike_210 : decode b_Mo_isAlike 210 = .ok (.iaload, 1) := by decide +kernel
theorem d_Mo_isAlike_211 : decode b_Mo_isAlike 211 = .ok (.iconst 1, 1) := by decide +kernel
theorem d_Mo_isAlike_212 : decode b_Mo_isAlike 212 = .ok (.if_icmp .ne 7, 3) := by decide +kernel
theorem d_Mo_isAlike_215 : decode b_Mo_isAlike 215 = .ok (.iconst 1, 1) := by decide +kernel
theorem d_Mo_isAlike_216 : decode b_Mo_isAlike 216 = .ok (.goto 4, 3) := by decide +kernel
theorem d_Mo_isAlike_219 : decode b_Mo_isAlike 219 = .ok (.iconst 0, 1) := by decide +kernel
theorem d_Mo_isAlike_220 : decode b_Mo_isAlike 220 = .ok (.aload_n 0, 1) := by decide +kernel
theorem d_Mo_isAlike_221 : decode b_Mo_isAlike 221 = .ok (.getfield 33, 3) := by decide +kernel
theorem d_Mo_isAlike_224 : decode b_Mo_isAlike 224 = .ok (.iload_n 2, 1) := by decide +kernel
theorem d_Mo_isAlike_225 : decode b_Mo_isAlike 225 = .ok (.baload, 1) := by decide +kernel
theorem d_Mo_isAlike_226 : decode b_Mo_isAlike 226 = .ok (.if_icmp .ne 29, 3) := by decide +kernel
theorem d_Mo_isAlike_229 : decode b_Mo_isAlike 229 = .ok (.aload_n 0, 1) := by decide +kernel
theorem d_Mo_isAlike_230 : decode b_Mo_isAlike 230 = .ok (.getfield 39, 3) := by decide +kernel
theorem d_Mo_isAlike_233 : decode b_Mo_isAlike 233 = .ok (.iload_n 1, 1) := by decide +kernel
theorem d_Mo_isAlike_234 : decode b_Mo_isAlike 234 = .ok (.iconst 4, 1) := by decide +kernel
theorem d_Mo_isAlike_235 : decode b_Mo_isAlike 235 = .ok (.iadd, 1) := by decide +kernel
theorem d_Mo_isAlike_236 : decode b_Mo_isAlike 236 = .ok (.iaload, 1) := by decide +kernel
theorem d_Mo_isAlike_237 : decode b_Mo_isAlike 237 = .ok (.iconst 1, 1) := by decide +kernel
theorem d_Mo_isAlike_238 : decode b_Mo_isAlike 238 = .ok (.if_icmp .ne 7, 3) := by decide +kernel
theorem d_Mo_isAlike_241 : decode b_Mo_isAlike 241 = .ok (.iconst 1, 1) := by decide +kernel
theorem d_Mo_isAlike_242 : decode b_Mo_isAlike 242 = .ok (.goto 4, 3) := by decide +kernel
theorem d_Mo_isAlike_245 : decode b_Mo_isAlike 245 = .ok (.iconst 0, 1) := by decide +kernel
theorem d_Mo_isAlike_246 : decode b_Mo_isAlike 246 = .ok (.aload_n 0, 1) := by decide +kernel
theorem d_Mo_isAlike_247 : decode b_Mo_isAlike 247 = .ok (.getfield 36, 3) := by decide +kernel
theorem d_Mo_isAlike_250 : decode b_Mo_isAlike 250 = .ok (.iload_n 2, 1) := by decide +kernel
theorem d_Mo_isAlike_251 : decode b_Mo_isAlike 251 = .ok (.baload, 1) := by decide +kernel
theorem d_Mo_isAlike_252 : decode b_Mo_isAlike 252 = .ok (.if_icmp .eq 5, 3) := by decide +kernel
theorem d_Mo_isAlike_255 : decode b_Mo_isAlike 255 = .ok (.iconst 0, 1) := by decide +kernel
theorem d_Mo_isAlike_256 : decode b_Mo_isAlike 256 = .ok (.ireturn, 1) := by decide +kernel
theorem d_Mo_isAlike_257 : decode b_Mo_isAlike 257 = .ok (.iinc 1 5, 3) := by decide +kernel
theorem d_Mo_isAlike_260 : decode b_Mo_isAlike 260 = .ok (.iinc 2 1, 3) := by decide +kernel
theorem d_Mo_isAlike_263 : decode b_Mo_isAlike 263 = .ok (.goto (-117), 3) := by decide +kernel
theorem d_Mo_isAlike_266 : decode b_Mo_isAlike 266 = .ok (.iconst 1, 1) := by decide +kernel
theorem d_Mo_isAlike_267 : decode b_Mo_isAlike 267 = .ok (.ireturn, 1) := by decide +kernel
theorem d_Mo_count_0 : decode b_Mo_count 0 = .ok (.aload_n 0, 1) := by decide +kernel
theorem d_Mo_count_1 : decode b_Mo_count 1 = .ok (.iconst 0, 1) := by decide +kernel
theorem d_Mo_count_2 : decode b_Mo_count 2 = .ok (.putfield 52, 3) := by decide +kernel
theorem d_Mo_count_5 : decode b_Mo_count 5 = .ok (.iload_n 1, 1) := by decide +kernel
theorem d_Mo_count_6 : decode b_Mo_count 6 = .ok (.ifCond .ne 8, 3) := by decide +kernel
theorem d_Mo_count_9 : decode b_Mo_count 9 = .ok (.aload_n 0, 1) := by decide +kernel
theorem d_Mo_count_10 : decode b_Mo_count 10 = .ok (.getfield 86, 3) := by decide +kernel
theorem d_Mo_count_13 : decode b_Mo_count 13 = .ok (.ireturn, 1) := by decide +kernel
theorem d_Mo_count_14 : decode b_Mo_count 14 = .ok (.iload_n 1, 1) := by decide +kernel
theorem d_Mo_count_15 : decode b_Mo_count 15 = .ok (.iconst 1, 1) := by decide +kernel
theorem d_Mo_count_16 : decode b_Mo_count 16 = .ok (.if_icmp .ne 8, 3) := by decide +kernel
theorem d_Mo_count_19 : decode b_Mo_count 19 = .ok (.aload_n 0, 1) := by decide +kernel
theorem d_Mo_count_20 : decode b_Mo_count 20 = .ok (.getfield 77, 3) := by decide +kernel
theorem d_Mo_count_23 : decode b_Mo_count 23 = .ok (.ireturn, 1) := by decide +kernel
theorem d_Mo_count_24 : decode b_Mo_count 24 = .ok (.iload_n 1, 1) := by decide +kernel
theorem d_Mo_count_25 : decode b_Mo_count 25 = .ok (.iconst 2, 1) := by decide +kernel
theorem d_Mo_count_26 : decode b_Mo_count 26 = .ok (.if_icmp .ne 8, 3) := by decide +kernel
theorem d_Mo_count_29 : decode b_Mo_count 29 = .ok (.aload_n 0, 1) := by decide +kernel
theorem d_Mo_count_30 : decode b_Mo_count 30 = .ok (.getfield 80, 3) := by decide +kernel
theorem d_Mo_count_33 : decode b_Mo_count 33 = .ok (.ireturn, 1) := by decide +kernel
theorem d_Mo_count_34 : decode b_Mo_count 34 = .ok (.iload_n 1, 1) := by decide +kernel
theorem d_Mo_count_35 : decode b_Mo_count 35 = .ok (.iconst 3, 1) := by decide +kernel
theorem d_Mo_count_36 : decode b_Mo_count 36 = .ok (.if_icmp .ne 8, 3) := by decide +kernel
theorem d_Mo_count_39 : decode b_Mo_count 39 = .ok (.aload_n 0, 1) := by decide +kernel
theorem d_Mo_count_40 : decode b_Mo_count 40 = .ok (.getfield 83, 3) := by decide +kernel
theorem d_Mo_count_43 : decode b_Mo_count 43 = .ok (.ireturn, 1) := by decide +kernel
theorem d_Mo_count_44 : decode b_Mo_count 44 = .ok (.iload_n 1, 1) := by decide +kernel
theorem d_Mo_count_45 : decode b_Mo_count 45 = .ok (.iconst 5, 1) := by decide +kernel
theorem d_Mo_count_46 : decode b_Mo_count 46 = .ok (.if_icmp .ne 8, 3) := by decide +kernel
theorem d_Mo_count_49 : decode b_Mo_count 49 = .ok (.aload_n 0, 1) := by decide +kernel
theorem d_Mo_count_50 : decode b_Mo_count 50 = .ok (.invokevirtual 116, 3) := by decide +kernel
theorem d_Mo_count_53 : decode b_Mo_count 53 = .ok (.ireturn, 1) := by decide +kernel
theorem d_Mo_count_54 : decode b_Mo_count 54 = .ok (.iload_n 1, 1) := by decide +kernel
theorem d_Mo_count_55 : decode b_Mo_count 55 = .ok (.bipush 7, 2) := by decide +kernel
theorem d_Mo_count_57 : decode b_Mo_count 57 = .ok (.if_icmp .ne 8, 3) := by decide +kernel
theorem d_Mo_count_60 : decode b_Mo_count 60 = .ok (.aload_n 0, 1) := by decide +kernel
theorem d_Mo_count_61 : decode b_Mo_count 61 = .ok (.getfield 9, 3) := by decide +kernel
theorem d_Mo_count_64 : decode b_Mo_count 64 = .ok (.ireturn, 1) := by decide +kernel
theorem d_Mo_count_65 : decode b_Mo_count 65 = .ok (.iconst 0, 1) := by decide +kernel
theorem d_Mo_count_66 : decode b_Mo_count 66 = .ok (.istore_n 2, 1) := by decide +kernel
theorem d_Mo_count_67 : decode b_Mo_count 67 = .ok (.iconst 0, 1) := by decide +kernel
theorem d_Mo_count_68 : decode b_Mo_count 68 = .ok (.istore_n 3, 1) := by decide +kernel
theorem d_Mo_count_69 : decode b_Mo_count 69 = .ok (.iload_n 3, 1) := by decide +kernel
theorem d_Mo_count_70 : decode b_Mo_count 70 = .ok (.aload_n 0, 1) := by decide +kernel
theorem d_Mo_count_71 : decode b_Mo_count 71 = .ok (.getfield 83, 3) := by decide +kernel
theorem d_Mo_count_74 : decode b_Mo_count 74 = .ok (.if_icmp .ge 42, 3) := by decide +kernel
theorem d_Mo_count_77 : decode b_Mo_count 77 = .ok (.iload_n 2, 1) := by decide +kernel
theorem d_Mo_count_78 : decode b_Mo_count 78 = .ok (.iload_n 1, 1) := by decide +kernel
theorem d_Mo_count_79 : decode b_Mo_count 79 = .ok (.iconst 4, 1) := by decide +kernel
theorem d_Mo_count_80 : decode b_Mo_count 80 = .ok (.if_icmp .ne 15, 3) := by decide +kernel
theorem d_Mo_count_83 : decode b_Mo_count 83 = .ok (.aload_n 0, 1) := by decide +kernel
theorem d_Mo_count_84 : decode b_Mo_count 84 = .ok (.getfield 36, 3) := by decide +kernel
theorem d_Mo_count_87 : decode b_Mo_count 87 = .ok (.iload_n 3, 1) := by decide +kernel
theorem d_Mo_count_88 : decode b_Mo_count 88 = .ok (.baload, 1) := by decide +kernel
theorem d_Mo_count_89 : decode b_Mo_count 89 = .ok (.ifCond .eq 18, 3) := by decide +kernel
theorem d_Mo_count_92 : decode b_Mo_count 92 = .ok (.goto 11, 3) := by decide +kernel
theorem d_Mo_count_95 : decode b_Mo_count 95 = .ok (.aload_n 0, 1) := by decide +kernel
theorem d_Mo_count_96 : decode b_Mo_count 96 = .ok (.iload_n 3, 1) := by decide +kernel
theorem d_Mo_count_97 : decode b_Mo_count 97 = .ok (.invokevirtual 99, 3) := by decide +kernel
theorem d_Mo_count_100 : decode b_Mo_count 100 = .ok (.ifCond .eq 7, 3) := by decide +kernel
theorem d_Mo_count_103 : decode b_Mo_count 103 = .ok (.iconst 1, 1) := by decide +kernel
theorem d_Mo_count_104 : decode b_Mo_count 104 = .ok (.goto 4, 3) := by decide +kernel
theorem d_Mo_count_107 : decode b_Mo_count 107 = .ok (.iconst 0, 1) := by decide +kernel
theorem d_Mo_count_108 : decode b_Mo_count 108 = .ok (.iadd, 1) := by decide +kernel
theorem d_Mo_count_109 : decode b_Mo_count 109 = .ok (.istore_n 2, 1) := by decide +kernel
theorem d_Mo_count_110 : decode b_Mo_count 110 = .ok (.iinc 3 1, 3) := by decide +kernel
theorem d_Mo_count_113 : decode b_Mo_count 113 = .ok (.goto (-44), 3) := by decide +kernel
theorem d_Mo_count_116 : decode b_Mo_count 116 = .ok (.iload_n 1, 1) := by decide +kernel
theorem d_Mo_count_117 : decode b_Mo_count 117 = .ok (.iconst 4, 1) := by decide +kernel
theorem d_Mo_count_118 : decode b_Mo_count 118 = .ok (.if_icmp .eq 9, 3) := by decide +kernel
theorem d_Mo_count_121 : decode b_Mo_count 121 = .ok (.iload_n 1, 1) := by decide +kernel
theorem d_Mo_count_122 : decode b_Mo_count 122 = .ok (.bipush 6, 2) := by decide +kernel
theorem d_Mo_count_124 : decode b_Mo_count 124 = .ok (.if_icmp .ne 7, 3) := by decide +kernel
theorem d_Mo_count_127 : decode b_Mo_count 127 = .ok (.iload_n 2, 1) := by decide +kernel
theorem d_Mo_count_128 : decode b_Mo_count 128 = .ok (.goto 4, 3) := by decide +kernel
theorem d_Mo_count_131 : decode b_Mo_count 131 = .ok (.iconst (-1), 1) := by decide +kernel
theorem d_Mo_count_132 : decode b_Mo_count 132 = .ok (.ireturn, 1) := by decide +kernel
