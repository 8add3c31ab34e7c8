theorem dX12_thrown_0 : decode cX12_thrown 0 = .ok (.aload_n 0, 1) := by decide +kernel
theorem dX12_thrown_1 : decode cX12_thrown 1 = .ok (.getfield 1, 3) := by decide +kernel
theorem dX12_thrown_4 : decode cX12_thrown 4 = .ok (.ireturn, 1) := by decide +kernel
theorem dX12_may_0 : decode cX12_may 0 = .ok (.iload_n 1, 1) := by decide +kernel
theorem dX12_may_1 : decode cX12_may 1 = .ok (.ifCond .ne 15, 3) := by decide +kernel
theorem dX12_may_4 : decode cX12_may 4 = .ok (.aload_n 0, 1) := by decide +kernel
theorem dX12_may_5 : decode cX12_may 5 = .ok (.getfield 1, 3) := by decide +kernel
theorem dX12_may_8 : decode cX12_may 8 = .ok (.ifCond .ne 8, 3) := by decide +kernel
theorem dX12_may_11 : decode cX12_may 11 = .ok (.aload_n 0, 1) := by decide +kernel
theorem dX12_may_12 : decode cX12_may 12 = .ok (.iload_n 2, 1) := by decide +kernel
theorem dX12_may_13 : decode cX12_may 13 = .ok (.putfield 1, 3) := by decide +kernel
theorem dX12_may_16 : decode cX12_may 16 = .ok (.aload_n 0, 1) := by decide +kernel
theorem dX12_may_17 : decode cX12_may 17 = .ok (.getfield 1, 3) := by decide +kernel
theorem dX12_may_20 : decode cX12_may 20 = .ok (.ifCond .ne 7, 3) := by decide +kernel
theorem dX12_may_23 : decode cX12_may 23 = .ok (.iconst 1, 1) := by decide +kernel
theorem dX12_may_24 : decode cX12_may 24 = .ok (.goto 4, 3) := by decide +kernel
theorem dX12_may_27 : decode cX12_may 27 = .ok (.iconst 0, 1) := by decide +kernel
theorem dX12_may_28 : decode cX12_may 28 = .ok (.ireturn, 1) := by decide +kernel
theorem dX12_init_0 : decode cX12_init 0 = .ok (.aload_n 0, 1) := by decide +kernel
theorem dX12_init_1 : decode cX12_init 1 = .ok (.invokespecial 7, 3) := by decide +kernel
theorem dX12_init_4 : decode cX12_init 4 = .ok (.aload_n 0, 1) := by decide +kernel
theorem dX12_init_5 : decode cX12_init 5 = .ok (.bipush 52, 2) := by decide +kernel
theorem dX12_init_7 : decode cX12_init 7 = .ok (.newarray .int, 2) := by decide +kernel
theorem dX12_init_9 : decode cX12_init 9 = .ok (.putfield 13, 3) := by decide +kernel
theorem dX12_init_12 : decode cX12_init 12 = .ok (.aload_n 0, 1) := by decide +kernel
theorem dX12_init_13 : decode cX12_init 13 = .ok (.sipush 468, 3) := by decide +kernel
theorem dX12_init_16 : decode cX12_init 16 = .ok (.newarray .int, 2) := by decide +kernel
theorem dX12_init_18 : decode cX12_init 18 = .ok (.putfield 17, 3) := by decide +kernel
theorem dX12_init_21 : decode cX12_init 21 = .ok (.aload_n 0, 1) := by decide +kernel
theorem dX12_init_22 : decode cX12_init 22 = .ok (.bipush 8, 2) := by decide +kernel
theorem dX12_init_24 : decode cX12_init 24 = .ok (.newarray .int, 2) := by decide +kernel
theorem dX12_init_26 : decode cX12_init 26 = .ok (.putfield 20, 3) := by decide +kernel
theorem dX12_init_29 : decode cX12_init 29 = .ok (.aload_n 0, 1) := by decide +kernel
theorem dX12_init_30 : decode cX12_init 30 = .ok (.bipush 9, 2) := by decide +kernel
theorem dX12_init_32 : decode cX12_init 32 = .ok (.newarray .int, 2) := by decide +kernel
theorem dX12_init_34 : decode cX12_init 34 = .ok (.putfield 23, 3) := by decide +kernel
theorem dX12_init_37 : decode cX12_init 37 = .ok (.aload_n 0, 1) := by decide +kernel
theorem dX12_init_38 : decode cX12_init 38 = .ok (.bipush 9, 2) := by decide +kernel
theorem dX12_init_40 : decode cX12_init 40 = .ok (.newarray .int, 2) := by decide +kernel
theorem dX12_init_42 : decode cX12_init 42 = .ok (.putfield 26, 3) := by decide +kernel
theorem dX12_init_45 : decode cX12_init 45 = .ok (.aload_n 0, 1) := by decide +kernel
theorem dX12_init_46 : decode cX12_init 46 = .ok (.bipush 9, 2) := by decide +kernel
theorem dX12_init_48 : decode cX12_init 48 = .ok (.newarray .int, 2) := by decide +kernel
theorem dX12_init_50 : decode cX12_init 50 = .ok (.putfield 29, 3) := by decide +kernel
theorem dX12_init_53 : decode cX12_init 53 = .ok (.aload_n 0, 1) := by decide +kernel
theorem dX12_init_54 : decode cX12_init 54 = .ok (.ldc 32, 2) := by decide +kernel
theorem dX12_init_56 : decode cX12_init 56 = .ok (.newarray .int, 2) := by decide +kernel
theorem dX12_init_58 : decode cX12_init 58 = .ok (.putfield 33, 3) := by decide +kernel
theorem dX12_init_61 : decode cX12_init 61 = .ok (.aload_n 0, 1) := by decide +kernel
theorem dX12_init_62 : decode cX12_init 62 = .ok (.sipush 12800, 3) := by decide +kernel
theorem dX12_init_65 : decode cX12_init 65 = .ok (.newarray .int, 2) := by decide +kernel
theorem dX12_init_67 : decode cX12_init 67 = .ok (.putfield 36, 3) := by decide +kernel
theorem dX12_init_70 : decode cX12_init 70 = .ok (.aload_n 0, 1) := by decide +kernel
theorem dX12_init_71 : decode cX12_init 71 = .ok (.sipush 3200, 3) := by decide +kernel
theorem dX12_init_74 : decode cX12_init 74 = .ok (.newarray .int, 2) := by decide +kernel
theorem dX12_init_76 : decode cX12_init 76 = .ok (.putfield 39, 3) := by decide +kernel
theorem dX12_init_79 : decode cX12_init 79 = .ok (.aload_n 0, 1) := by decide +kernel
theorem dX12_init_80 : decode cX12_init 80 = .ok (.sipush 424, 3) := by decide +kernel
theorem dX12_init_83 : decode cX12_init 83 = .ok (.newarray .int, 2) := by decide +kernel
theorem dX12_init_85 : decode cX12_init 85 = .ok (.putfield 42, 3) := by decide +kernel
theorem dX12_init_88 : decode cX12_init 88 = .ok (.aload_n 0, 1) := by decide +kernel
theorem dX12_init_89 : decode cX12_init 89 = .ok (.iconst 1, 1) := by decide +kernel
theorem dX12_init_90 : decode cX12_init 90 = .ok (.putfield 45, 3) := by decide +kernel
theorem dX12_init_93 : decode cX12_init 93 = .ok (.aload_n 0, 1) := by decide +kernel
theorem dX12_init_94 : decode cX12_init 94 = .ok (.iconst (-1), 1) := by decide +kernel
theorem dX12_init_95 : decode cX12_init 95 = .ok (.putfield 48, 3) := by decide +kernel
theorem dX12_init_98 : decode cX12_init 98 = .ok (.aload_n 0, 1) := by decide +kernel
theorem dX12_init_99 : decode cX12_init 99 = .ok (.iconst (-1), 1) := by decide +kernel
theorem dX12_init_100 : decode cX12_init 100 = .ok (.putfield 51, 3) := by decide +kernel
theorem dX12_init_103 : decode cX12_init 103 = .ok (.aload_n 0, 1) := by decide +kernel
theorem dX12_init_104 : decode cX12_init 104 = .ok (.iconst 2, 1) := by decide +kernel
theorem dX12_init_105 : decode cX12_init 105 = .ok (.newarray .int, 2) := by decide +kernel
theorem dX12_init_107 : decode cX12_init 107 = .ok (.putfield 54, 3) := by decide +kernel
theorem dX12_init_110 : decode cX12_init 110 = .ok (.aload_n 0, 1) := by decide +kernel
theorem dX12_init_111 : decode cX12_init 111 = .ok (.sipush 400, 3) := by decide +kernel
theorem dX12_init_114 : decode cX12_init 114 = .ok (.newarray .int, 2) := by decide +kernel
theorem dX12_init_116 : decode cX12_init 116 = .ok (.putfield 57, 3) := by decide +kernel
theorem dX12_init_119 : decode cX12_init 119 = .ok (.aload_n 0, 1) := by decide +kernel
theorem dX12_init_120 : decode cX12_init 120 = .ok (.iconst (-1), 1) := by decide +kernel
theorem dX12_init_121 : decode cX12_init 121 = .ok (.putfield 60, 3) := by decide +kernel
theorem dX12_init_124 : decode cX12_init 124 = .ok (.aload_n 0, 1) := by decide +kernel
theorem dX12_init_125 : decode cX12_init 125 = .ok (.bipush 52, 2) := by decide +kernel
theorem dX12_init_127 : decode cX12_init 127 = .ok (.newarray .int, 2) := by decide +kernel
theorem dX12_init_129 : decode cX12_init 129 = .ok (.putfield 63, 3) := by decide +kernel
theorem dX12_init_132 : decode cX12_init 132 = .ok (.aload_n 0, 1) := by decide +kernel
theorem dX12_init_133 : decode cX12_init 133 = .ok (.bipush 16, 2) := by decide +kernel
theorem dX12_init_135 : decode cX12_init 135 = .ok (.newarray .int, 2) := by decide +kernel
theorem dX12_init_137 : decode cX12_init 137 = .ok (.putfield 66, 3) := by decide +kernel
theorem dX12_init_140 : decode cX12_init 140 = .ok (.aload_n 0, 1) := by decide +kernel
theorem dX12_init_141 : decode cX12_init 141 = .ok (.bipush 16, 2) := by decide +kernel
theorem dX12_init_143 : decode cX12_init 143 = .ok (.newarray .int, 2) := by decide +kernel
theorem dX12_init_145 : decode cX12_init 145 = .ok (.putfield 69, 3) := by decide +kernel
theorem dX12_init_148 : decode cX12_init 148 = .ok (.aload_n 0, 1) := by decide +kernel
theorem dX12_init_149 : decode cX12_init 149 = .ok (.bipush 16, 2) := by decide +kernel
theorem dX12_init_151 : decode cX12_init 151 = .ok (.newarray .boolean, 2) := by decide +kernel
theorem dX12_init_153 : decode cX12_init 153 = .ok (.putfield 72, 3) := by decide +kernel
theorem dX12_init_156 : decode cX12_init 156 = .ok (.aload_n 0, 1) := by decide +kernel
theorem dX12_init_157 : decode cX12_init 157 = .ok (.bipush 16, 2) := by decide +kernel
theorem dX12_init_159 : decode cX12_init 159 = .ok (.newarray .boolean, 2) := by decide +kernel
theorem dX12_init_161 : decode cX12_init 161 = .ok (.putfield 76, 3) := by decide +kernel
theorem dX12_init_164 : decode cX12_init 164 = .ok (.aload_n 0, 1) := by decide +kernel
theorem dX12_init_165 : decode cX12_init 165 = .ok (.ldc 79, 2) := by decide +kernel
theorem dX12_init_167 : decode cX12_init 167 = .ok (.newarray .int, 2) := by decide +kernel
theorem dX12_init_169 : decode cX12_init 169 = .ok (.putfield 80, 3) := by decide +kernel
theorem dX12_init_172 : decode cX12_init 172 = .ok (.aload_n 0, 1) := by decide +kernel
theorem dX12_init_173 : decode cX12_init 173 = .ok (.ldc 83, 2) := by decide +kernel
theorem dX12_init_175 : decode cX12_init 175 = .ok (.newarray .int, 2) := by decide +kernel
theorem dX12_init_177 : decode cX12_init 177 = .ok (.putfield 84, 3) := by decide +kernel
theorem dX12_init_180 : decode cX12_init 180 = .ok (.aload_n 0, 1) := by decide +kernel
theorem dX12_init_181 : decode cX12_init 181 = .ok (.ldc 87, 2) := by decide +kernel
theorem dX12_init_183 : decode cX12_init 183 = .ok (.newarray .int, 2) := by decide +kernel
theorem dX12_init_185 : decode cX12_init 185 = .ok (.putfield 88, 3) := by decide +kernel
theorem dX12_init_188 : decode cX12_init 188 = .ok (.aload_n 0, 1) := by decide +kernel
theorem dX12_init_189 : decode cX12_init 189 = .ok (.bipush 119, 2) := by decide +kernel
theorem dX12_init_191 : decode cX12_init 191 = .ok (.newarray .int, 2) := by decide +kernel
theorem dX12_init_193 : decode cX12_init 193 = .ok (.putfield 91, 3) := by decide +kernel
theorem dX12_init_196 : decode cX12_init 196 = .ok (.aload_n 0, 1) := by decide +kernel
theorem dX12_init_197 : decode cX12_init 197 = .ok (.bipush 8, 2) := by decide +kernel
theorem dX12_init_199 : decode cX12_init 199 = .ok (.newarray .int, 2) := by decide +kernel
theorem dX12_init_201 : decode cX12_init 201 = .ok (.putfield 94, 3) := by decide +kernel
theorem dX12_init_204 : decode cX12_init 204 = .ok (.aload_n 0, 1) := by decide +kernel
theorem dX12_init_205 : decode cX12_init 205 = .ok (.bipush 8, 2) := by decide +kernel
theorem dX12_init_207 : decode cX12_init 207 = .ok (.newarray .int, 2) := by decide +kernel
theorem dX12_init_209 : decode cX12_init 209 = .ok (.putfield 97, 3) := by decide +kernel
theorem dX12_init_212 : decode cX12_init 212 = .ok (.aload_n 0, 1) := by decide +kernel
theorem dX12_init_213 : decode cX12_init 213 = .ok (.sipush 1000, 3) := by decide +kernel
theorem dX12_init_216 : decode cX12_init 216 = .ok (.newarray .int, 2) := by decide +kernel
theorem dX12_init_218 : decode cX12_init 218 = .ok (.putfield 100, 3) := by decide +kernel
theorem dX12_init_221 : decode cX12_init 221 = .ok (.aload_n 0, 1) := by decide +kernel
theorem dX12_init_222 : decode cX12_init 222 = .ok (.sipush 400, 3) := by decide +kernel
theorem dX12_init_225 : decode cX12_init 225 = .ok (.newarray .int, 2) := by decide +kernel
theorem dX12_init_227 : decode cX12_init 227 = .ok (.putfield 103, 3) := by decide +kernel
theorem dX12_init_230 : decode cX12_init 230 = .ok (.aload_n 0, 1) := by decide +kernel
theorem dX12_init_231 : decode cX12_init 231 = .ok (.sipush 400, 3) := by decide +kernel
theorem dX12_init_234 : decode cX12_init 234 = .ok (.newarray .int, 2) := by decide +kernel
theorem dX12_init_236 : decode cX12_init 236 = .ok (.putfield 106, 3) := by decide +kernel
theorem dX12_init_239 : decode cX12_init 239 = .ok (.aload_n 0, 1) := by decide +kernel
theorem dX12_init_240 : decode cX12_init 240 = .ok (.bipush 12, 2) := by decide +kernel
theorem dX12_init_242 : decode cX12_init 242 = .ok (.newarray .int, 2) := by decide +kernel
theorem dX12_init_244 : decode cX12_init 244 = .ok (.putfield 109, 3) := by decide +kernel
theorem dX12_init_247 : decode cX12_init 247 = .ok (.aload_n 0, 1) := by decide +kernel
theorem dX12_init_248 : decode cX12_init 248 = .ok (.bipush 12, 2) := by decide +kernel
theorem dX12_init_250 : decode cX12_init 250 = .ok (.newarray .int, 2) := by decide +kernel
theorem dX12_init_252 : decode cX12_init 252 = .ok (.putfield 112, 3) := by decide +kernel
theorem dX12_init_255 : decode cX12_init 255 = .ok (.aload_n 0, 1) := by decide +kernel
theorem dX12_init_256 : decode cX12_init 256 = .ok (.bipush 12, 2) := by decide +kernel
theorem dX12_init_258 : decode cX12_init 258 = .ok (.newarray .int, 2) := by decide +kernel
theorem dX12_init_260 : decode cX12_init 260 = .ok (.putfield 115, 3) := by decide +kernel
theorem dX12_init_263 : decode cX12_init 263 = .ok (.aload_n 0, 1) := by decide +kernel
theorem dX12_init_264 : decode cX12_init 264 = .ok (.ldc 87, 2) := by decide +kernel
theorem dX12_init_266 : decode cX12_init 266 = .ok (.newarray .long, 2) := by decide +kernel
theorem dX12_init_268 : decode cX12_init 268 = .ok (.putfield 118, 3) := by decide +kernel
theorem dX12_init_271 : decode cX12_init 271 = .ok (.aload_n 0, 1) := by decide +kernel
theorem dX12_init_272 : decode cX12_init 272 = .ok (.ldc 87, 2) := by decide +kernel
theorem dX12_init_274 : decode cX12_init 274 = .ok (.newarray .long, 2) := by decide +kernel
theorem dX12_init_276 : decode cX12_init 276 = .ok (.putfield 122, 3) := by decide +kernel
theorem dX12_init_279 : decode cX12_init 279 = .ok (.aload_n 0, 1) := by decide +kernel
theorem dX12_init_280 : decode cX12_init 280 = .ok (.bipush 13, 2) := by decide +kernel
theorem dX12_init_282 : decode cX12_init 282 = .ok (.newarray .long, 2) := by decide +kernel
theorem dX12_init_284 : decode cX12_init 284 = .ok (.putfield 125, 3) := by decide +kernel
theorem dX12_init_287 : decode cX12_init 287 = .ok (.aload_n 0, 1) := by decide +kernel
theorem dX12_init_288 : decode cX12_init 288 = .ok (.bipush 13, 2) := by decide +kernel
theorem dX12_init_290 : decode cX12_init 290 = .ok (.newarray .long, 2) := by decide +kernel
theorem dX12_init_292 : decode cX12_init 292 = .ok (.putfield 128, 3) := by decide +kernel
theorem dX12_init_295 : decode cX12_init 295 = .ok (.aload_n 0, 1) := by decide +kernel
theorem dX12_init_296 : decode cX12_init 296 = .ok (.ldc 87, 2) := by decide +kernel
theorem dX12_init_298 : decode cX12_init 298 = .ok (.newarray .int, 2) := by decide +kernel
theorem dX12_init_300 : decode cX12_init 300 = .ok (.putfield 131, 3) := by decide +kernel
theorem dX12_init_303 : decode cX12_init 303 = .ok (.aload_n 0, 1) := by decide +kernel
theorem dX12_init_304 : decode cX12_init 304 = .ok (.ldc 87, 2) := by decide +kernel
theorem dX12_init_306 : decode cX12_init 306 = .ok (.newarray .int, 2) := by decide +kernel
theorem dX12_init_308 : decode cX12_init 308 = .ok (.putfield 134, 3) := by decide +kernel
theorem dX12_init_311 : decode cX12_init 311 = .ok (.aload_n 0, 1) := by decide +kernel
theorem dX12_init_312 : decode cX12_init 312 = .ok (.bipush 12, 2) := by decide +kernel
theorem dX12_init_314 : decode cX12_init 314 = .ok (.newarray .int, 2) := by decide +kernel
theorem dX12_init_316 : decode cX12_init 316 = .ok (.putfield 137, 3) := by decide +kernel
theorem dX12_init_319 : decode cX12_init 319 = .ok (.aload_n 0, 1) := by decide +kernel
theorem dX12_init_320 : decode cX12_init 320 = .ok (.bipush 12, 2) := by decide +kernel
theorem dX12_init_322 : decode cX12_init 322 = .ok (.newarray .int, 2) := by decide +kernel
theorem dX12_init_324 : decode cX12_init 324 = .ok (.putfield 140, 3) := by decide +kernel
theorem dX12_init_327 : decode cX12_init 327 = .ok (.aload_n 0, 1) := by decide +kernel
theorem dX12_init_328 : decode cX12_init 328 = .ok (.bipush 12, 2) := by decide +kernel
theorem dX12_init_330 : decode cX12_init 330 = .ok (.newarray .int, 2) := by decide +kernel
theorem dX12_init_332 : decode cX12_init 332 = .ok (.putfield 143, 3) := by decide +kernel
theorem dX12_init_335 : decode cX12_init 335 = .ok (.aload_n 0, 1) := by decide +kernel
theorem dX12_init_336 : decode cX12_init 336 = .ok (.invokevirtual 146, 3) := by decide +kernel
theorem dX12_init_339 : decode cX12_init 339 = .ok (.return_, 1) := by decide +kernel
theorem dX12_start_0 : decode cX12_start 0 = .ok (.iconst 0, 1) := by decide +kernel
theorem dX12_start_1 : decode cX12_start 1 = .ok (.istore_n 1, 1) := by decide +kernel
theorem dX12_start_2 : decode cX12_start 2 = .ok (.iload_n 1, 1) := by decide +kernel
theorem dX12_start_3 : decode cX12_start 3 = .ok (.bipush 52, 2) := by decide +kernel
theorem dX12_start_5 : decode cX12_start 5 = .ok (.if_icmp .ge 57, 3) := by decide +kernel
theorem dX12_start_8 : decode cX12_start 8 = .ok (.iload_n 1, 1) := by decide +kernel
theorem dX12_start_9 : decode cX12_start 9 = .ok (.bipush 26, 2) := by decide +kernel
theorem dX12_start_11 : decode cX12_start 11 = .ok (.irem, 1) := by decide +kernel
theorem dX12_start_12 : decode cX12_start 12 = .ok (.istore_n 2, 1) := by decide +kernel
theorem dX12_start_13 : decode cX12_start 13 = .ok (.aload_n 0, 1) := by decide +kernel
theorem dX12_start_14 : decode cX12_start 14 = .ok (.getfield 13, 3) := by decide +kernel
theorem dX12_start_17 : decode cX12_start 17 = .ok (.iload_n 1, 1) := by decide +kernel
theorem dX12_start_18 : decode cX12_start 18 = .ok (.iload_n 2, 1) := by decide +kernel
theorem dX12_start_19 : decode cX12_start 19 = .ok (.bipush 24, 2) := by decide +kernel
theorem dX12_start_21 : decode cX12_start 21 = .ok (.if_icmp .ne 7, 3) := by decide +kernel
theorem dX12_start_24 : decode cX12_start 24 = .ok (.iconst 2, 1) := by decide +kernel
theorem dX12_start_25 : decode cX12_start 25 = .ok (.goto 30, 3) := by decide +kernel
theorem dX12_start_28 : decode cX12_start 28 = .ok (.iload_n 2, 1) := by decide +kernel
theorem dX12_start_29 : decode cX12_start 29 = .ok (.bipush 13, 2) := by decide +kernel
theorem dX12_start_31 : decode cX12_start 31 = .ok (.if_icmp .eq 9, 3) := by decide +kernel
theorem dX12_start_34 : decode cX12_start 34 = .ok (.iload_n 2, 1) := by decide +kernel
theorem dX12_start_35 : decode cX12_start 35 = .ok (.bipush 6, 2) := by decide +kernel
theorem dX12_start_37 : decode cX12_start 37 = .ok (.if_icmp .ne 7, 3) := by decide +kernel
theorem dX12_start_40 : decode cX12_start 40 = .ok (.iconst 5, 1) := by decide +kernel
theorem dX12_start_41 : decode cX12_start 41 = .ok (.goto 14, 3) := by decide +kernel
theorem dX12_start_44 : decode cX12_start 44 = .ok (.iload_n 2, 1) := by decide +kernel
theorem dX12_start_45 : decode cX12_start 45 = .ok (.bipush 8, 2) := by decide +kernel
theorem dX12_start_47 : decode cX12_start 47 = .ok (.if_icmp .ne 7, 3) := by decide +kernel
theorem dX12_start_50 : decode cX12_start 50 = .ok (.iconst 3, 1) := by decide +kernel
theorem dX12_start_51 : decode cX12_start 51 = .ok (.goto 4, 3) := by decide +kernel
theorem dX12_start_54 : decode cX12_start 54 = .ok (.iconst 0, 1) := by decide +kernel
theorem dX12_start_55 : decode cX12_start 55 = .ok (.iastore, 1) := by decide +kernel
theorem dX12_start_56 : decode cX12_start 56 = .ok (.iinc 1 1, 3) := by decide +kernel
theorem dX12_start_59 : decode cX12_start 59 = .ok (.goto (-57), 3) := by decide +kernel
theorem dX12_start_62 : decode cX12_start 62 = .ok (.aload_n 0, 1) := by decide +kernel
theorem dX12_start_63 : decode cX12_start 63 = .ok (.iconst 0, 1) := by decide +kernel
theorem dX12_start_64 : decode cX12_start 64 = .ok (.putfield 149, 3) := by decide +kernel
theorem dX12_start_67 : decode cX12_start 67 = .ok (.aload_n 0, 1) := by decide +kernel
theorem dX12_start_68 : decode cX12_start 68 = .ok (.iconst 0, 1) := by decide +kernel
theorem dX12_start_69 : decode cX12_start 69 = .ok (.putfield 152, 3) := by decide +kernel
theorem dX12_start_72 : decode cX12_start 72 = .ok (.return_, 1) := by decide +kernel
theorem dX12_isDie_0 : decode cX12_isDie 0 = .ok (.iload_n 0, 1) := by decide +kernel
theorem dX12_isDie_1 : decode cX12_isDie 1 = .ok (.iconst 1, 1) := by decide +kernel
theorem dX12_isDie_2 : decode cX12_isDie 2 = .ok (.if_icmp .lt 13, 3) := by decide +kernel
theorem dX12_isDie_5 : decode cX12_isDie 5 = .ok (.iload_n 0, 1) := by decide +kernel
theorem dX12_isDie_6 : decode cX12_isDie 6 = .ok (.bipush 6, 2) := by decide +kernel
theorem dX12_isDie_8 : decode cX12_isDie 8 = .ok (.if_icmp .gt 7, 3) := by decide +kernel
theorem dX12_isDie_11 : decode cX12_isDie 11 = .ok (.iconst 1, 1) := by decide +kernel
theorem dX12_isDie_12 : decode cX12_isDie 12 = .ok (.goto 4, 3) := by decide +kernel
theorem dX12_isDie_15 : decode cX12_isDie 15 = .ok (.iconst 0, 1) := by decide +kernel
theorem dX12_isDie_16 : decode cX12_isDie 16 = .ok (.ireturn, 1) := by decide +kernel
theorem dX12_men_0 : decode cX12_men 0 = .ok (.aload_n 0, 1) := by decide +kernel
theorem dX12_men_1 : decode cX12_men 1 = .ok (.iconst 0, 1) := by decide +kernel
theorem dX12_men_2 : decode cX12_men 2 = .ok (.putfield 1, 3) := by decide +kernel
theorem dX12_men_5 : decode cX12_men 5 = .ok (.aload_n 0, 1) := by decide +kernel
theorem dX12_men_6 : decode cX12_men 6 = .ok (.iload_n 1, 1) := by decide +kernel
theorem dX12_men_7 : decode cX12_men 7 = .ok (.ifCond .lt 22, 3) := by decide +kernel
theorem dX12_men_10 : decode cX12_men 10 = .ok (.iload_n 1, 1) := by decide +kernel
theorem dX12_men_11 : decode cX12_men 11 = .ok (.iconst 1, 1) := by decide +kernel
theorem dX12_men_12 : decode cX12_men 12 = .ok (.if_icmp .gt 17, 3) := by decide +kernel
theorem dX12_men_15 : decode cX12_men 15 = .ok (.iload_n 2, 1) := by decide +kernel
theorem dX12_men_16 : decode cX12_men 16 = .ok (.ifCond .lt 13, 3) := by decide +kernel
theorem dX12_men_19 : decode cX12_men 19 = .ok (.iload_n 2, 1) := by decide +kernel
theorem dX12_men_20 : decode cX12_men 20 = .ok (.bipush 25, 2) := by decide +kernel
theorem dX12_men_22 : decode cX12_men 22 = .ok (.if_icmp .gt 7, 3) := by decide +kernel
theorem dX12_men_25 : decode cX12_men 25 = .ok (.iconst 1, 1) := by decide +kernel
theorem dX12_men_26 : decode cX12_men 26 = .ok (.goto 4, 3) := by decide +kernel
theorem dX12_men_29 : decode cX12_men 29 = .ok (.iconst 0, 1) := by decide +kernel
theorem dX12_men_30 : decode cX12_men 30 = .ok (.iconst 1, 1) := by decide +kernel
theorem dX12_men_31 : decode cX12_men 31 = .ok (.invokevirtual 155, 3) := by decide +kernel
theorem dX12_men_34 : decode cX12_men 34 = .ok (.ifCond .eq 17, 3) := by decide +kernel
theorem dX12_men_37 : decode cX12_men 37 = .ok (.aload_n 0, 1) := by decide +kernel
theorem dX12_men_38 : decode cX12_men 38 = .ok (.getfield 13, 3) := by decide +kernel
theorem dX12_men_41 : decode cX12_men 41 = .ok (.bipush 26, 2) := by decide +kernel
theorem dX12_men_43 : decode cX12_men 43 = .ok (.iload_n 1, 1) := by decide +kernel
theorem dX12_men_44 : decode cX12_men 44 = .ok (.imul, 1) := by decide +kernel
theorem dX12_men_45 : decode cX12_men 45 = .ok (.iload_n 2, 1) := by decide +kernel
theorem dX12_men_46 : decode cX12_men 46 = .ok (.iadd, 1) := by decide +kernel
theorem dX12_men_47 : decode cX12_men 47 = .ok (.iaload, 1) := by decide +kernel
theorem dX12_men_48 : decode cX12_men 48 = .ok (.goto 4, 3) := by decide +kernel
theorem dX12_men_51 : decode cX12_men 51 = .ok (.iconst 0, 1) := by decide +kernel
theorem dX12_men_52 : decode cX12_men 52 = .ok (.ireturn, 1) := by decide +kernel
theorem dX12_pips_0 : decode cX12_pips 0 = .ok (.iconst 0, 1) := by decide +kernel
theorem dX12_pips_1 : decode cX12_pips 1 = .ok (.istore_n 2, 1) := by decide +kernel
theorem dX12_pips_2 : decode cX12_pips 2 = .ok (.iconst 1, 1) := by decide +kernel
theorem dX12_pips_3 : decode cX12_pips 3 = .ok (.istore_n 3, 1) := by decide +kernel
theorem dX12_pips_4 : decode cX12_pips 4 = .ok (.iload_n 3, 1) := by decide +kernel
theorem dX12_pips_5 : decode cX12_pips 5 = .ok (.bipush 26, 2) := by decide +kernel
theorem dX12_pips_7 : decode cX12_pips 7 = .ok (.if_icmp .ge 25, 3) := by decide +kernel
theorem dX12_pips_10 : decode cX12_pips 10 = .ok (.iload_n 2, 1) := by decide +kernel
theorem dX12_pips_11 : decode cX12_pips 11 = .ok (.iload_n 3, 1) := by decide +kernel
theorem dX12_pips_12 : decode cX12_pips 12 = .ok (.aload_n 0, 1) := by decide +kernel
theorem dX12_pips_13 : decode cX12_pips 13 = .ok (.getfield 13, 3) := by decide +kernel
theorem dX12_pips_16 : decode cX12_pips 16 = .ok (.bipush 26, 2) := by decide +kernel
theorem dX12_pips_18 : decode cX12_pips 18 = .ok (.iload_n 1, 1) := by decide +kernel
theorem dX12_pips_19 : decode cX12_pips 19 = .ok (.imul, 1) := by decide +kernel
theorem dX12_pips_20 : decode cX12_pips 20 = .ok (.iload_n 3, 1) := by decide +kernel
theorem dX12_pips_21 : decode cX12_pips 21 = .ok (.iadd, 1) := by decide +kernel
theorem dX12_pips_22 : decode cX12_pips 22 = .ok (.iaload, 1) := by decide +kernel
theorem dX12_pips_23 : decode cX12_pips 23 = .ok (.imul, 1) := by decide +kernel
theorem dX12_pips_24 : decode cX12_pips 24 = .ok (.iadd, 1) := by decide +kernel
theorem dX12_pips_25 : decode cX12_pips 25 = .ok (.istore_n 2, 1) := by decide +kernel
theorem dX12_pips_26 : decode cX12_pips 26 = .ok (.iinc 3 1, 3) := by decide +kernel
theorem dX12_pips_29 : decode cX12_pips 29 = .ok (.goto (-25), 3) := by decide +kernel
theorem dX12_pips_32 : decode cX12_pips 32 = .ok (.iload_n 2, 1) := by decide +kernel
theorem dX12_pips_33 : decode cX12_pips 33 = .ok (.ireturn, 1) := by decide +kernel
theorem dX12_isOver_0 : decode cX12_isOver 0 = .ok (.aload_n 0, 1) := by decide +kernel
theorem dX12_isOver_1 : decode cX12_isOver 1 = .ok (.getfield 13, 3) := by decide +kernel
theorem dX12_isOver_4 : decode cX12_isOver 4 = .ok (.iconst 0, 1) := by decide +kernel
theorem dX12_isOver_5 : decode cX12_isOver 5 = .ok (.iaload, 1) := by decide +kernel
theorem dX12_isOver_6 : decode cX12_isOver 6 = .ok (.bipush 15, 2) := by decide +kernel
theorem dX12_isOver_8 : decode cX12_isOver 8 = .ok (.if_icmp .eq 15, 3) := by decide +kernel
theorem dX12_isOver_11 : decode cX12_isOver 11 = .ok (.aload_n 0, 1) := by decide +kernel
theorem dX12_isOver_12 : decode cX12_isOver 12 = .ok (.getfield 13, 3) := by decide +kernel
theorem dX12_isOver_15 : decode cX12_isOver 15 = .ok (.bipush 26, 2) := by decide +kernel
theorem dX12_isOver_17 : decode cX12_isOver 17 = .ok (.iaload, 1) := by decide +kernel
theorem dX12_isOver_18 : decode cX12_isOver 18 = .ok (.bipush 15, 2) := by decide +kernel
theorem dX12_isOver_20 : decode cX12_isOver 20 = .ok (.if_icmp .ne 7, 3) := by decide +kernel
theorem dX12_isOver_23 : decode cX12_isOver 23 = .ok (.iconst 1, 1) := by decide +kernel
theorem dX12_isOver_24 : decode cX12_isOver 24 = .ok (.goto 4, 3) := by decide +kernel
theorem dX12_isOver_27 : decode cX12_isOver 27 = .ok (.iconst 0, 1) := by decide +kernel
theorem dX12_isOver_28 : decode cX12_isOver 28 = .ok (.ireturn, 1) := by decide +kernel
theorem dX12_ask_0 : decode cX12_ask 0 = .ok (.aload_n 0, 1) := by decide +kernel
theorem dX12_ask_1 : decode cX12_ask 1 = .ok (.iconst 0, 1) := by decide +kernel
theorem dX12_ask_2 : decode cX12_ask 2 = .ok (.putfield 1, 3) := by decide +kernel
theorem dX12_ask_5 : decode cX12_ask 5 = .ok (.aload_n 0, 1) := by decide +kernel
theorem dX12_ask_6 : decode cX12_ask 6 = .ok (.iload_n 1, 1) := by decide +kernel
theorem dX12_ask_7 : decode cX12_ask 7 = .ok (.ifCond .lt 13, 3) := by decide +kernel
theorem dX12_ask_10 : decode cX12_ask 10 = .ok (.iload_n 1, 1) := by decide +kernel
theorem dX12_ask_11 : decode cX12_ask 11 = .ok (.bipush 7, 2) := by decide +kernel
theorem dX12_ask_13 : decode cX12_ask 13 = .ok (.if_icmp .gt 7, 3) := by decide +kernel
theorem dX12_ask_16 : decode cX12_ask 16 = .ok (.iconst 1, 1) := by decide +kernel
theorem dX12_ask_17 : decode cX12_ask 17 = .ok (.goto 4, 3) := by decide +kernel
theorem dX12_ask_20 : decode cX12_ask 20 = .ok (.iconst 0, 1) := by decide +kernel
theorem dX12_ask_21 : decode cX12_ask 21 = .ok (.iconst 1, 1) := by decide +kernel
theorem dX12_ask_22 : decode cX12_ask 22 = .ok (.invokevirtual 155, 3) := by decide +kernel
theorem dX12_ask_25 : decode cX12_ask 25 = .ok (.ifCond .ne 5, 3) := by decide +kernel
theorem dX12_ask_28 : decode cX12_ask 28 = .ok (.iconst 0, 1) := by decide +kernel
theorem dX12_ask_29 : decode cX12_ask 29 = .ok (.ireturn, 1) := by decide +kernel
theorem dX12_ask_30 : decode cX12_ask 30 = .ok (.iload_n 1, 1) := by decide +kernel
theorem dX12_ask_31 : decode cX12_ask 31 = .ok (.tableswitch 82 0 6 #[41, 46, 46, 54, 67, 72, 77], 41) := by decide +kernel
theorem dX12_ask_72 : decode cX12_ask 72 = .ok (.aload_n 0, 1) := by decide +kernel
theorem dX12_ask_73 : decode cX12_ask 73 = .ok (.getfield 149, 3) := by decide +kernel
theorem dX12_ask_76 : decode cX12_ask 76 = .ok (.ireturn, 1) := by decide +kernel
theorem dX12_ask_77 : decode cX12_ask 77 = .ok (.aload_n 0, 1) := by decide +kernel
theorem dX12_ask_78 : decode cX12_ask 78 = .ok (.iload_n 1, 1) := by decide +kernel
theorem dX12_ask_79 : decode cX12_ask 79 = .ok (.iconst 1, 1) := by decide +kernel
theorem dX12_ask_80 : decode cX12_ask 80 = .ok (.isub, 1) := by decide +kernel
theorem dX12_ask_81 : decode cX12_ask 81 = .ok (.invokevirtual 159, 3) := by decide +kernel
theorem dX12_ask_84 : decode cX12_ask 84 = .ok (.ireturn, 1) := by decide +kernel
theorem dX12_ask_85 : decode cX12_ask 85 = .ok (.aload_n 0, 1) := by decide +kernel
theorem dX12_ask_86 : decode cX12_ask 86 = .ok (.invokevirtual 163, 3) := by decide +kernel
theorem dX12_ask_89 : decode cX12_ask 89 = .ok (.ifCond .eq 7, 3) := by decide +kernel
theorem dX12_ask_92 : decode cX12_ask 92 = .ok (.iconst 1, 1) := by decide +kernel
theorem dX12_ask_93 : decode cX12_ask 93 = .ok (.goto 4, 3) := by decide +kernel
theorem dX12_ask_96 : decode cX12_ask 96 = .ok (.iconst 0, 1) := by decide +kernel
theorem dX12_ask_97 : decode cX12_ask 97 = .ok (.ireturn, 1) := by decide +kernel
theorem dX12_ask_98 : decode cX12_ask 98 = .ok (.aload_n 0, 1) := by decide +kernel
theorem dX12_ask_99 : decode cX12_ask 99 = .ok (.getfield 167, 3) := by decide +kernel
theorem dX12_ask_102 : decode cX12_ask 102 = .ok (.ireturn, 1) := by decide +kernel
theorem dX12_ask_103 : decode cX12_ask 103 = .ok (.aload_n 0, 1) := by decide +kernel
theorem dX12_ask_104 : decode cX12_ask 104 = .ok (.getfield 170, 3) := by decide +kernel
theorem dX12_ask_107 : decode cX12_ask 107 = .ok (.ireturn, 1) := by decide +kernel
theorem dX12_ask_108 : decode cX12_ask 108 = .ok (.aload_n 0, 1) := by decide +kernel
theorem dX12_ask_109 : decode cX12_ask 109 = .ok (.getfield 152, 3) := by decide +kernel
theorem dX12_ask_112 : decode cX12_ask 112 = .ok (.ireturn, 1) := by decide +kernel
theorem dX12_ask_113 : decode cX12_ask 113 = .ok (.aload_n 0, 1) := by decide +kernel
theorem dX12_ask_114 : decode cX12_ask 114 = .ok (.getfield 173, 3) := by decide +kernel
theorem dX12_ask_117 : decode cX12_ask 117 = .ok (.ireturn, 1) := by decide +kernel
theorem dX12_canMove_0 : decode cX12_canMove 0 = .ok (.bipush 52, 2) := by decide +kernel
theorem dX12_canMove_2 : decode cX12_canMove 2 = .ok (.iload_n 1, 1) := by decide +kernel
theorem dX12_canMove_3 : decode cX12_canMove 3 = .ok (.imul, 1) := by decide +kernel
theorem dX12_canMove_4 : decode cX12_canMove 4 = .ok (.bipush 26, 2) := by decide +kernel
theorem dX12_canMove_6 : decode cX12_canMove 6 = .ok (.aload_n 0, 1) := by decide +kernel
theorem dX12_canMove_7 : decode cX12_canMove 7 = .ok (.getfield 176, 3) := by decide +kernel
theorem dX12_canMove_10 : decode cX12_canMove 10 = .ok (.imul, 1) := by decide +kernel
theorem dX12_canMove_11 : decode cX12_canMove 11 = .ok (.iadd, 1) := by decide +kernel
theorem dX12_canMove_12 : decode cX12_canMove 12 = .ok (.istore 4, 2) := by decide +kernel
theorem dX12_canMove_14 : decode cX12_canMove 14 = .ok (.bipush 52, 2) := by decide +kernel
theorem dX12_canMove_16 : decode cX12_canMove 16 = .ok (.iload_n 1, 1) := by decide +kernel
theorem dX12_canMove_17 : decode cX12_canMove 17 = .ok (.imul, 1) := by decide +kernel
theorem dX12_canMove_18 : decode cX12_canMove 18 = .ok (.bipush 26, 2) := by decide +kernel
theorem dX12_canMove_20 : decode cX12_canMove 20 = .ok (.iconst 1, 1) := by decide +kernel
theorem dX12_canMove_21 : decode cX12_canMove 21 = .ok (.aload_n 0, 1) := by decide +kernel
theorem dX12_canMove_22 : decode cX12_canMove 22 = .ok (.getfield 176, 3) := by decide +kernel
theorem dX12_canMove_25 : decode cX12_canMove 25 = .ok (.isub, 1) := by decide +kernel
theorem dX12_canMove_26 : decode cX12_canMove 26 = .ok (.imul, 1) := by decide +kernel
theorem dX12_canMove_27 : decode cX12_canMove 27 = .ok (.iadd, 1) := by decide +kernel
theorem dX12_canMove_28 : decode cX12_canMove 28 = .ok (.istore 5, 2) := by decide +kernel
theorem dX12_canMove_30 : decode cX12_canMove 30 = .ok (.aload_n 0, 1) := by decide +kernel
theorem dX12_canMove_31 : decode cX12_canMove 31 = .ok (.getfield 17, 3) := by decide +kernel
theorem dX12_canMove_34 : decode cX12_canMove 34 = .ok (.iload 4, 2) := by decide +kernel
theorem dX12_canMove_36 : decode cX12_canMove 36 = .ok (.iload_n 2, 1) := by decide +kernel
theorem dX12_canMove_37 : decode cX12_canMove 37 = .ok (.iadd, 1) := by decide +kernel
theorem dX12_canMove_38 : decode cX12_canMove 38 = .ok (.iaload, 1) := by decide +kernel
theorem dX12_canMove_39 : decode cX12_canMove 39 = .ok (.ifCond .eq 22, 3) := by decide +kernel
theorem dX12_canMove_42 : decode cX12_canMove 42 = .ok (.iload_n 2, 1) := by decide +kernel
theorem dX12_canMove_43 : decode cX12_canMove 43 = .ok (.bipush 25, 2) := by decide +kernel
theorem dX12_canMove_45 : decode cX12_canMove 45 = .ok (.if_icmp .ge 18, 3) := by decide +kernel
theorem dX12_canMove_48 : decode cX12_canMove 48 = .ok (.aload_n 0, 1) := by decide +kernel
theorem dX12_canMove_49 : decode cX12_canMove 49 = .ok (.getfield 17, 3) := by decide +kernel
theorem dX12_canMove_52 : decode cX12_canMove 52 = .ok (.iload 4, 2) := by decide +kernel
theorem dX12_canMove_54 : decode cX12_canMove 54 = .ok (.bipush 25, 2) := by decide +kernel
theorem dX12_canMove_56 : decode cX12_canMove 56 = .ok (.iadd, 1) := by decide +kernel
theorem dX12_canMove_57 : decode cX12_canMove 57 = .ok (.iaload, 1) := by decide +kernel
theorem dX12_canMove_58 : decode cX12_canMove 58 = .ok (.ifCond .le 5, 3) := by decide +kernel
theorem dX12_canMove_61 : decode cX12_canMove 61 = .ok (.iconst 0, 1) := by decide +kernel
theorem dX12_canMove_62 : decode cX12_canMove 62 = .ok (.ireturn, 1) := by decide +kernel
theorem dX12_canMove_63 : decode cX12_canMove 63 = .ok (.iload_n 2, 1) := by decide +kernel
theorem dX12_canMove_64 : decode cX12_canMove 64 = .ok (.iload_n 3, 1) := by decide +kernel
theorem dX12_canMove_65 : decode cX12_canMove 65 = .ok (.isub, 1) := by decide +kernel
theorem dX12_canMove_66 : decode cX12_canMove 66 = .ok (.istore 6, 2) := by decide +kernel
theorem dX12_canMove_68 : decode cX12_canMove 68 = .ok (.iload 6, 2) := by decide +kernel
theorem dX12_canMove_70 : decode cX12_canMove 70 = .ok (.ifCond .le 26, 3) := by decide +kernel
theorem dX12_canMove_73 : decode cX12_canMove 73 = .ok (.aload_n 0, 1) := by decide +kernel
theorem dX12_canMove_74 : decode cX12_canMove 74 = .ok (.getfield 17, 3) := by decide +kernel
theorem dX12_canMove_77 : decode cX12_canMove 77 = .ok (.iload 5, 2) := by decide +kernel
theorem dX12_canMove_79 : decode cX12_canMove 79 = .ok (.bipush 25, 2) := by decide +kernel
theorem dX12_canMove_81 : decode cX12_canMove 81 = .ok (.iadd, 1) := by decide +kernel
theorem dX12_canMove_82 : decode cX12_canMove 82 = .ok (.iload 6, 2) := by decide +kernel
theorem dX12_canMove_84 : decode cX12_canMove 84 = .ok (.isub, 1) := by decide +kernel
theorem dX12_canMove_85 : decode cX12_canMove 85 = .ok (.iaload, 1) := by decide +kernel
theorem dX12_canMove_86 : decode cX12_canMove 86 = .ok (.iconst 1, 1) := by decide +kernel
theorem dX12_canMove_87 : decode cX12_canMove 87 = .ok (.if_icmp .gt 7, 3) := by decide +kernel
theorem dX12_canMove_90 : decode cX12_canMove 90 = .ok (.iconst 1, 1) := by decide +kernel
theorem dX12_canMove_91 : decode cX12_canMove 91 = .ok (.goto 4, 3) := by decide +kernel
theorem dX12_canMove_94 : decode cX12_canMove 94 = .ok (.iconst 0, 1) := by decide +kernel
theorem dX12_canMove_95 : decode cX12_canMove 95 = .ok (.ireturn, 1) := by decide +kernel
theorem dX12_canMove_96 : decode cX12_canMove 96 = .ok (.bipush 7, 2) := by decide +kernel
theorem dX12_canMove_98 : decode cX12_canMove 98 = .ok (.istore 7, 2) := by decide +kernel
theorem dX12_canMove_100 : decode cX12_canMove 100 = .ok (.iload 7, 2) := by decide +kernel
theorem dX12_canMove_102 : decode cX12_canMove 102 = .ok (.bipush 26, 2) := by decide +kernel
theorem dX12_canMove_104 : decode cX12_canMove 104 = .ok (.if_icmp .ge 24, 3) := by decide +kernel
theorem dX12_canMove_107 : decode cX12_canMove 107 = .ok (.aload_n 0, 1) := by decide +kernel
theorem dX12_canMove_108 : decode cX12_canMove 108 = .ok (.getfield 17, 3) := by decide +kernel
theorem dX12_canMove_111 : decode cX12_canMove 111 = .ok (.iload 4, 2) := by decide +kernel
theorem dX12_canMove_113 : decode cX12_canMove 113 = .ok (.iload 7, 2) := by decide +kernel
theorem dX12_canMove_115 : decode cX12_canMove 115 = .ok (.iadd, 1) := by decide +kernel
theorem dX12_canMove_116 : decode cX12_canMove 116 = .ok (.iaload, 1) := by decide +kernel
theorem dX12_canMove_117 : decode cX12_canMove 117 = .ok (.ifCond .le 5, 3) := by decide +kernel
theorem dX12_canMove_120 : decode cX12_canMove 120 = .ok (.iconst 0, 1) := by decide +kernel
theorem dX12_canMove_121 : decode cX12_canMove 121 = .ok (.ireturn, 1) := by decide +kernel
theorem dX12_canMove_122 : decode cX12_canMove 122 = .ok (.iinc 7 1, 3) := by decide +kernel
theorem dX12_canMove_125 : decode cX12_canMove 125 = .ok (.goto (-25), 3) := by decide +kernel
theorem dX12_canMove_128 : decode cX12_canMove 128 = .ok (.iconst 1, 1) := by decide +kernel
theorem dX12_canMove_129 : decode cX12_canMove 129 = .ok (.istore 7, 2) := by decide +kernel
theorem dX12_canMove_131 : decode cX12_canMove 131 = .ok (.iload_n 2, 1) := by decide +kernel
theorem dX12_canMove_132 : decode cX12_canMove 132 = .ok (.iconst 1, 1) := by decide +kernel
theorem dX12_canMove_133 : decode cX12_canMove 133 = .ok (.iadd, 1) := by decide +kernel
theorem dX12_canMove_134 : decode cX12_canMove 134 = .ok (.istore 8, 2) := by decide +kernel
theorem dX12_canMove_136 : decode cX12_canMove 136 = .ok (.iload 8, 2) := by decide +kernel
theorem dX12_canMove_138 : decode cX12_canMove 138 = .ok (.bipush 7, 2) := by decide +kernel
theorem dX12_canMove_140 : decode cX12_canMove 140 = .ok (.if_icmp .ge 34, 3) := by decide +kernel
theorem dX12_canMove_143 : decode cX12_canMove 143 = .ok (.iload 7, 2) := by decide +kernel
theorem dX12_canMove_145 : decode cX12_canMove 145 = .ok (.ifCond .eq 20, 3) := by decide +kernel
theorem dX12_canMove_148 : decode cX12_canMove 148 = .ok (.aload_n 0, 1) := by decide +kernel
theorem dX12_canMove_149 : decode cX12_canMove 149 = .ok (.getfield 17, 3) := by decide +kernel
theorem dX12_canMove_152 : decode cX12_canMove 152 = .ok (.iload 4, 2) := by decide +kernel
theorem dX12_canMove_154 : decode cX12_canMove 154 = .ok (.iload 8, 2) := by decide +kernel
theorem dX12_canMove_156 : decode cX12_canMove 156 = .ok (.iadd, 1) := by decide +kernel
theorem dX12_canMove_157 : decode cX12_canMove 157 = .ok (.iaload, 1) := by decide +kernel
theorem dX12_canMove_158 : decode cX12_canMove 158 = .ok (.ifCond .ne 7, 3) := by decide +kernel
theorem dX12_canMove_161 : decode cX12_canMove 161 = .ok (.iconst 1, 1) := by decide +kernel
theorem dX12_canMove_162 : decode cX12_canMove 162 = .ok (.goto 4, 3) := by decide +kernel
theorem dX12_canMove_165 : decode cX12_canMove 165 = .ok (.iconst 0, 1) := by decide +kernel
theorem dX12_canMove_166 : decode cX12_canMove 166 = .ok (.istore 7, 2) := by decide +kernel
theorem dX12_canMove_168 : decode cX12_canMove 168 = .ok (.iinc 8 1, 3) := by decide +kernel
theorem dX12_canMove_171 : decode cX12_canMove 171 = .ok (.goto (-35), 3) := by decide +kernel
theorem dX12_canMove_174 : decode cX12_canMove 174 = .ok (.iload 6, 2) := by decide +kernel
theorem dX12_canMove_176 : decode cX12_canMove 176 = .ok (.ifCond .eq 8, 3) := by decide +kernel
theorem dX12_canMove_179 : decode cX12_canMove 179 = .ok (.iload 7, 2) := by decide +kernel
theorem dX12_canMove_181 : decode cX12_canMove 181 = .ok (.ifCond .eq 7, 3) := by decide +kernel
theorem dX12_canMove_184 : decode cX12_canMove 184 = .ok (.iconst 1, 1) := by decide +kernel
theorem dX12_canMove_185 : decode cX12_canMove 185 = .ok (.goto 4, 3) := by decide +kernel
theorem dX12_canMove_188 : decode cX12_canMove 188 = .ok (.iconst 0, 1) := by decide +kernel
theorem dX12_canMove_189 : decode cX12_canMove 189 = .ok (.ireturn, 1) := by decide +kernel
theorem dX12_move_0 : decode cX12_move 0 = .ok (.iconst 0, 1) := by decide +kernel
theorem dX12_move_1 : decode cX12_move 1 = .ok (.istore 4, 2) := by decide +kernel
theorem dX12_move_3 : decode cX12_move 3 = .ok (.iload 4, 2) := by decide +kernel
theorem dX12_move_5 : decode cX12_move 5 = .ok (.bipush 52, 2) := by decide +kernel
theorem dX12_move_7 : decode cX12_move 7 = .ok (.if_icmp .ge 35, 3) := by decide +kernel
theorem dX12_move_10 : decode cX12_move 10 = .ok (.aload_n 0, 1) := by decide +kernel
theorem dX12_move_11 : decode cX12_move 11 = .ok (.getfield 17, 3) := by decide +kernel
theorem dX12_move_14 : decode cX12_move 14 = .ok (.bipush 52, 2) := by decide +kernel
theorem dX12_move_16 : decode cX12_move 16 = .ok (.iload_n 1, 1) := by decide +kernel
theorem dX12_move_17 : decode cX12_move 17 = .ok (.iconst 1, 1) := by decide +kernel
theorem dX12_move_18 : decode cX12_move 18 = .ok (.iadd, 1) := by decide +kernel
theorem dX12_move_19 : decode cX12_move 19 = .ok (.imul, 1) := by decide +kernel
theorem dX12_move_20 : decode cX12_move 20 = .ok (.iload 4, 2) := by decide +kernel
theorem dX12_move_22 : decode cX12_move 22 = .ok (.iadd, 1) := by decide +kernel
theorem dX12_move_23 : decode cX12_move 23 = .ok (.aload_n 0, 1) := by decide +kernel
theorem dX12_move_24 : decode cX12_move 24 = .ok (.getfield 17, 3) := by decide +kernel
theorem dX12_move_27 : decode cX12_move 27 = .ok (.bipush 52, 2) := by decide +kernel
theorem dX12_move_29 : decode cX12_move 29 = .ok (.iload_n 1, 1) := by decide +kernel
theorem dX12_move_30 : decode cX12_move 30 = .ok (.imul, 1) := by decide +kernel
theorem dX12_move_31 : decode cX12_move 31 = .ok (.iload 4, 2) := by decide +kernel
theorem dX12_move_33 : decode cX12_move 33 = .ok (.iadd, 1) := by decide +kernel
theorem dX12_move_34 : decode cX12_move 34 = .ok (.iaload, 1) := by decide +kernel
theorem dX12_move_35 : decode cX12_move 35 = .ok (.iastore, 1) := by decide +kernel
theorem dX12_move_36 : decode cX12_move 36 = .ok (.iinc 4 1, 3) := by decide +kernel
theorem dX12_move_39 : decode cX12_move 39 = .ok (.goto (-36), 3) := by decide +kernel
theorem dX12_move_42 : decode cX12_move 42 = .ok (.bipush 52, 2) := by decide +kernel
theorem dX12_move_44 : decode cX12_move 44 = .ok (.iload_n 1, 1) := by decide +kernel
theorem dX12_move_45 : decode cX12_move 45 = .ok (.iconst 1, 1) := by decide +kernel
theorem dX12_move_46 : decode cX12_move 46 = .ok (.iadd, 1) := by decide +kernel
theorem dX12_move_47 : decode cX12_move 47 = .ok (.imul, 1) := by decide +kernel
theorem dX12_move_48 : decode cX12_move 48 = .ok (.bipush 26, 2) := by decide +kernel
theorem dX12_move_50 : decode cX12_move 50 = .ok (.aload_n 0, 1) := by decide +kernel
theorem dX12_move_51 : decode cX12_move 51 = .ok (.getfield 176, 3) := by decide +kernel
theorem dX12_move_54 : decode cX12_move 54 = .ok (.imul, 1) := by decide +kernel
theorem dX12_move_55 : decode cX12_move 55 = .ok (.iadd, 1) := by decide +kernel
theorem dX12_move_56 : decode cX12_move 56 = .ok (.istore 4, 2) := by decide +kernel
theorem dX12_move_58 : decode cX12_move 58 = .ok (.bipush 52, 2) := by decide +kernel
theorem dX12_move_60 : decode cX12_move 60 = .ok (.iload_n 1, 1) := by decide +kernel
theorem dX12_move_61 : decode cX12_move 61 = .ok (.iconst 1, 1) := by decide +kernel
theorem dX12_move_62 : decode cX12_move 62 = .ok (.iadd, 1) := by decide +kernel
theorem dX12_move_63 : decode cX12_move 63 = .ok (.imul, 1) := by decide +kernel
theorem dX12_move_64 : decode cX12_move 64 = .ok (.bipush 26, 2) := by decide +kernel
theorem dX12_move_66 : decode cX12_move 66 = .ok (.iconst 1, 1) := by decide +kernel
theorem dX12_move_67 : decode cX12_move 67 = .ok (.aload_n 0, 1) := by decide +kernel
theorem dX12_move_68 : decode cX12_move 68 = .ok (.getfield 176, 3) := by decide +kernel
theorem dX12_move_71 : decode cX12_move 71 = .ok (.isub, 1) := by decide +kernel
theorem dX12_move_72 : decode cX12_move 72 = .ok (.imul, 1) := by decide +kernel
theorem dX12_move_73 : decode cX12_move 73 = .ok (.iadd, 1) := by decide +kernel
theorem dX12_move_74 : decode cX12_move 74 = .ok (.istore 5, 2) := by decide +kernel
theorem dX12_move_76 : decode cX12_move 76 = .ok (.iload_n 2, 1) := by decide +kernel
theorem dX12_move_77 : decode cX12_move 77 = .ok (.iload_n 3, 1) := by decide +kernel
theorem dX12_move_78 : decode cX12_move 78 = .ok (.if_icmp .le 9, 3) := by decide +kernel
theorem dX12_move_81 : decode cX12_move 81 = .ok (.iload_n 2, 1) := by decide +kernel
theorem dX12_move_82 : decode cX12_move 82 = .ok (.iload_n 3, 1) := by decide +kernel
theorem dX12_move_83 : decode cX12_move 83 = .ok (.isub, 1) := by decide +kernel
theorem dX12_move_84 : decode cX12_move 84 = .ok (.goto 4, 3) := by decide +kernel
theorem dX12_move_87 : decode cX12_move 87 = .ok (.iconst 0, 1) := by decide +kernel
theorem dX12_move_88 : decode cX12_move 88 = .ok (.istore 6, 2) := by decide +kernel
theorem dX12_move_90 : decode cX12_move 90 = .ok (.aload_n 0, 1) := by decide +kernel
theorem dX12_move_91 : decode cX12_move 91 = .ok (.getfield 17, 3) := by decide +kernel
theorem dX12_move_94 : decode cX12_move 94 = .ok (.iload 4, 2) := by decide +kernel
theorem dX12_move_96 : decode cX12_move 96 = .ok (.iload_n 2, 1) := by decide +kernel
theorem dX12_move_97 : decode cX12_move 97 = .ok (.iadd, 1) := by decide +kernel
theorem dX12_move_98 : decode cX12_move 98 = .ok (.dup2, 1) := by decide +kernel
theorem dX12_move_99 : decode cX12_move 99 = .ok (.iaload, 1) := by decide +kernel
theorem dX12_move_100 : decode cX12_move 100 = .ok (.iconst 1, 1) := by decide +kernel
theorem dX12_move_101 : decode cX12_move 101 = .ok (.isub, 1) := by decide +kernel
theorem dX12_move_102 : decode cX12_move 102 = .ok (.iastore, 1) := by decide +kernel
theorem dX12_move_103 : decode cX12_move 103 = .ok (.aload_n 0, 1) := by decide +kernel
theorem dX12_move_104 : decode cX12_move 104 = .ok (.getfield 17, 3) := by decide +kernel
theorem dX12_move_107 : decode cX12_move 107 = .ok (.iload 4, 2) := by decide +kernel
theorem dX12_move_109 : decode cX12_move 109 = .ok (.iload 6, 2) := by decide +kernel
theorem dX12_move_111 : decode cX12_move 111 = .ok (.iadd, 1) := by decide +kernel
theorem dX12_move_112 : decode cX12_move 112 = .ok (.dup2, 1) := by decide +kernel
theorem dX12_move_113 : decode cX12_move 113 = .ok (.iaload, 1) := by decide +kernel
theorem dX12_move_114 : decode cX12_move 114 = .ok (.iconst 1, 1) := by decide +kernel
theorem dX12_move_115 : decode cX12_move 115 = .ok (.iadd, 1) := by decide +kernel
theorem dX12_move_116 : decode cX12_move 116 = .ok (.iastore, 1) := by decide +kernel
theorem dX12_move_117 : decode cX12_move 117 = .ok (.iload 6, 2) := by decide +kernel
theorem dX12_move_119 : decode cX12_move 119 = .ok (.ifCond .eq 19, 3) := by decide +kernel
theorem dX12_move_122 : decode cX12_move 122 = .ok (.aload_n 0, 1) := by decide +kernel
theorem dX12_move_123 : decode cX12_move 123 = .ok (.getfield 17, 3) := by decide +kernel
theorem dX12_move_126 : decode cX12_move 126 = .ok (.iload 5, 2) := by decide +kernel
theorem dX12_move_128 : decode cX12_move 128 = .ok (.bipush 25, 2) := by decide +kernel
theorem dX12_move_130 : decode cX12_move 130 = .ok (.iadd, 1) := by decide +kernel
theorem dX12_move_131 : decode cX12_move 131 = .ok (.iload 6, 2) := by decide +kernel
theorem dX12_move_133 : decode cX12_move 133 = .ok (.isub, 1) := by decide +kernel
theorem dX12_move_134 : decode cX12_move 134 = .ok (.iaload, 1) := by decide +kernel
theorem dX12_move_135 : decode cX12_move 135 = .ok (.ifCond .ne 5, 3) := by decide +kernel
theorem dX12_move_138 : decode cX12_move 138 = .ok (.iconst 0, 1) := by decide +kernel
theorem dX12_move_139 : decode cX12_move 139 = .ok (.ireturn, 1) := by decide +kernel
theorem dX12_move_140 : decode cX12_move 140 = .ok (.aload_n 0, 1) := by decide +kernel
theorem dX12_move_141 : decode cX12_move 141 = .ok (.getfield 17, 3) := by decide +kernel
theorem dX12_move_144 : decode cX12_move 144 = .ok (.iload 5, 2) := by decide +kernel
theorem dX12_move_146 : decode cX12_move 146 = .ok (.bipush 25, 2) := by decide +kernel
theorem dX12_move_148 : decode cX12_move 148 = .ok (.iadd, 1) := by decide +kernel
theorem dX12_move_149 : decode cX12_move 149 = .ok (.iload 6, 2) := by decide +kernel
theorem dX12_move_151 : decode cX12_move 151 = .ok (.isub, 1) := by decide +kernel
theorem dX12_move_152 : decode cX12_move 152 = .ok (.iconst 0, 1) := by decide +kernel
theorem dX12_move_153 : decode cX12_move 153 = .ok (.iastore, 1) := by decide +kernel
theorem dX12_move_154 : decode cX12_move 154 = .ok (.aload_n 0, 1) := by decide +kernel
theorem dX12_move_155 : decode cX12_move 155 = .ok (.getfield 17, 3) := by decide +kernel
theorem dX12_move_158 : decode cX12_move 158 = .ok (.iload 5, 2) := by decide +kernel
theorem dX12_move_160 : decode cX12_move 160 = .ok (.bipush 25, 2) := by decide +kernel
theorem dX12_move_162 : decode cX12_move 162 = .ok (.iadd, 1) := by decide +kernel
theorem dX12_move_163 : decode cX12_move 163 = .ok (.dup2, 1) := by decide +kernel
theorem dX12_move_164 : decode cX12_move 164 = .ok (.iaload, 1) := by decide +kernel
theorem dX12_move_165 : decode cX12_move 165 = .ok (.iconst 1, 1) := by decide +kernel
theorem dX12_move_166 : decode cX12_move 166 = .ok (.iadd, 1) := by decide +kernel
theorem dX12_move_167 : decode cX12_move 167 = .ok (.iastore, 1) := by decide +kernel
theorem dX12_move_168 : decode cX12_move 168 = .ok (.iconst 1, 1) := by decide +kernel
theorem dX12_move_169 : decode cX12_move 169 = .ok (.ireturn, 1) := by decide +kernel
theorem dX12_walk_0 : decode cX12_walk 0 = .ok (.iconst 0, 1) := by decide +kernel
theorem dX12_walk_1 : decode cX12_walk 1 = .ok (.istore_n 2, 1) := by decide +kernel
theorem dX12_walk_2 : decode cX12_walk 2 = .ok (.iconst 0, 1) := by decide +kernel
theorem dX12_walk_3 : decode cX12_walk 3 = .ok (.istore_n 3, 1) := by decide +kernel
theorem dX12_walk_4 : decode cX12_walk 4 = .ok (.aload_n 0, 1) := by decide +kernel
theorem dX12_walk_5 : decode cX12_walk 5 = .ok (.getfield 23, 3) := by decide +kernel
theorem dX12_walk_8 : decode cX12_walk 8 = .ok (.iconst 0, 1) := by decide +kernel
theorem dX12_walk_9 : decode cX12_walk 9 = .ok (.bipush 25, 2) := by decide +kernel
theorem dX12_walk_11 : decode cX12_walk 11 = .ok (.iastore, 1) := by decide +kernel
theorem dX12_walk_12 : decode cX12_walk 12 = .ok (.aload_n 0, 1) := by decide +kernel
theorem dX12_walk_13 : decode cX12_walk 13 = .ok (.getfield 26, 3) := by decide +kernel
theorem dX12_walk_16 : decode cX12_walk 16 = .ok (.iconst 0, 1) := by decide +kernel
theorem dX12_walk_17 : decode cX12_walk 17 = .ok (.iconst 0, 1) := by decide +kernel
theorem dX12_walk_18 : decode cX12_walk 18 = .ok (.iastore, 1) := by decide +kernel
theorem dX12_walk_19 : decode cX12_walk 19 = .ok (.aload_n 0, 1) := by decide +kernel
theorem dX12_walk_20 : decode cX12_walk 20 = .ok (.getfield 29, 3) := by decide +kernel
theorem dX12_walk_23 : decode cX12_walk 23 = .ok (.iconst 0, 1) := by decide +kernel
theorem dX12_walk_24 : decode cX12_walk 24 = .ok (.aload_n 0, 1) := by decide +kernel
theorem dX12_walk_25 : decode cX12_walk 25 = .ok (.getfield 179, 3) := by decide +kernel
theorem dX12_walk_28 : decode cX12_walk 28 = .ok (.aload_n 0, 1) := by decide +kernel
theorem dX12_walk_29 : decode cX12_walk 29 = .ok (.getfield 182, 3) := by decide +kernel
theorem dX12_walk_32 : decode cX12_walk 32 = .ok (.if_icmp .ne 7, 3) := by decide +kernel
theorem dX12_walk_35 : decode cX12_walk 35 = .ok (.iconst 4, 1) := by decide +kernel
theorem dX12_walk_36 : decode cX12_walk 36 = .ok (.goto 4, 3) := by decide +kernel
theorem dX12_walk_39 : decode cX12_walk 39 = .ok (.iconst 3, 1) := by decide +kernel
theorem dX12_walk_40 : decode cX12_walk 40 = .ok (.iastore, 1) := by decide +kernel
theorem dX12_walk_41 : decode cX12_walk 41 = .ok (.iload_n 3, 1) := by decide +kernel
theorem dX12_walk_42 : decode cX12_walk 42 = .ok (.ifCond .lt 260, 3) := by decide +kernel
theorem dX12_walk_45 : decode cX12_walk 45 = .ok (.iload_n 1, 1) := by decide +kernel
theorem dX12_walk_46 : decode cX12_walk 46 = .ok (.ifCond .eq 22, 3) := by decide +kernel
theorem dX12_walk_49 : decode cX12_walk 49 = .ok (.iload_n 3, 1) := by decide +kernel
theorem dX12_walk_50 : decode cX12_walk 50 = .ok (.aload_n 0, 1) := by decide +kernel
theorem dX12_walk_51 : decode cX12_walk 51 = .ok (.getfield 185, 3) := by decide +kernel
theorem dX12_walk_54 : decode cX12_walk 54 = .ok (.if_icmp .ne 14, 3) := by decide +kernel
theorem dX12_walk_57 : decode cX12_walk 57 = .ok (.aload_n 0, 1) := by decide +kernel
theorem dX12_walk_58 : decode cX12_walk 58 = .ok (.iload_n 3, 1) := by decide +kernel
theorem dX12_walk_59 : decode cX12_walk 59 = .ok (.invokevirtual 188, 3) := by decide +kernel
theorem dX12_walk_62 : decode cX12_walk 62 = .ok (.iinc 3 (-1), 3) := by decide +kernel
theorem dX12_walk_65 : decode cX12_walk 65 = .ok (.goto (-24), 3) := by decide +kernel
theorem dX12_walk_68 : decode cX12_walk 68 = .ok (.iconst 0, 1) := by decide +kernel
theorem dX12_walk_69 : decode cX12_walk 69 = .ok (.istore 4, 2) := by decide +kernel
theorem dX12_walk_71 : decode cX12_walk 71 = .ok (.iload 4, 2) := by decide +kernel
theorem dX12_walk_73 : decode cX12_walk 73 = .ok (.ifCond .ne 186, 3) := by decide +kernel
theorem dX12_walk_76 : decode cX12_walk 76 = .ok (.aload_n 0, 1) := by decide +kernel
theorem dX12_walk_77 : decode cX12_walk 77 = .ok (.getfield 23, 3) := by decide +kernel
theorem dX12_walk_80 : decode cX12_walk 80 = .ok (.iload_n 3, 1) := by decide +kernel
theorem dX12_walk_81 : decode cX12_walk 81 = .ok (.iaload, 1) := by decide +kernel
theorem dX12_walk_82 : decode cX12_walk 82 = .ok (.ifCond .le 177, 3) := by decide +kernel
theorem dX12_walk_85 : decode cX12_walk 85 = .ok (.aload_n 0, 1) := by decide +kernel
theorem dX12_walk_86 : decode cX12_walk 86 = .ok (.getfield 23, 3) := by decide +kernel
theorem dX12_walk_89 : decode cX12_walk 89 = .ok (.iload_n 3, 1) := by decide +kernel
theorem dX12_walk_90 : decode cX12_walk 90 = .ok (.iaload, 1) := by decide +kernel
theorem dX12_walk_91 : decode cX12_walk 91 = .ok (.istore 5, 2) := by decide +kernel
theorem dX12_walk_93 : decode cX12_walk 93 = .ok (.aload_n 0, 1) := by decide +kernel
theorem dX12_walk_94 : decode cX12_walk 94 = .ok (.getfield 26, 3) := by decide +kernel
theorem dX12_walk_97 : decode cX12_walk 97 = .ok (.iload_n 3, 1) := by decide +kernel
theorem dX12_walk_98 : decode cX12_walk 98 = .ok (.iaload, 1) := by decide +kernel
theorem dX12_walk_99 : decode cX12_walk 99 = .ok (.istore 6, 2) := by decide +kernel
theorem dX12_walk_101 : decode cX12_walk 101 = .ok (.aload_n 0, 1) := by decide +kernel
theorem dX12_walk_102 : decode cX12_walk 102 = .ok (.getfield 26, 3) := by decide +kernel
theorem dX12_walk_105 : decode cX12_walk 105 = .ok (.iload_n 3, 1) := by decide +kernel
theorem dX12_walk_106 : decode cX12_walk 106 = .ok (.iconst 1, 1) := by decide +kernel
theorem dX12_walk_107 : decode cX12_walk 107 = .ok (.iload 6, 2) := by decide +kernel
theorem dX12_walk_109 : decode cX12_walk 109 = .ok (.isub, 1) := by decide +kernel
theorem dX12_walk_110 : decode cX12_walk 110 = .ok (.iastore, 1) := by decide +kernel
theorem dX12_walk_111 : decode cX12_walk 111 = .ok (.aload_n 0, 1) := by decide +kernel
theorem dX12_walk_112 : decode cX12_walk 112 = .ok (.getfield 23, 3) := by decide +kernel
theorem dX12_walk_115 : decode cX12_walk 115 = .ok (.iload_n 3, 1) := by decide +kernel
theorem dX12_walk_116 : decode cX12_walk 116 = .ok (.iload 5, 2) := by decide +kernel
theorem dX12_walk_118 : decode cX12_walk 118 = .ok (.iload 6, 2) := by decide +kernel
theorem dX12_walk_120 : decode cX12_walk 120 = .ok (.isub, 1) := by decide +kernel
theorem dX12_walk_121 : decode cX12_walk 121 = .ok (.iastore, 1) := by decide +kernel
theorem dX12_walk_122 : decode cX12_walk 122 = .ok (.iload 6, 2) := by decide +kernel
theorem dX12_walk_124 : decode cX12_walk 124 = .ok (.ifCond .ne 10, 3) := by decide +kernel
theorem dX12_walk_127 : decode cX12_walk 127 = .ok (.aload_n 0, 1) := by decide +kernel
theorem dX12_walk_128 : decode cX12_walk 128 = .ok (.getfield 179, 3) := by decide +kernel
theorem dX12_walk_131 : decode cX12_walk 131 = .ok (.goto 7, 3) := by decide +kernel
theorem dX12_walk_134 : decode cX12_walk 134 = .ok (.aload_n 0, 1) := by decide +kernel
theorem dX12_walk_135 : decode cX12_walk 135 = .ok (.getfield 182, 3) := by decide +kernel
theorem dX12_walk_138 : decode cX12_walk 138 = .ok (.istore 7, 2) := by decide +kernel
theorem dX12_walk_140 : decode cX12_walk 140 = .ok (.aload_n 0, 1) := by decide +kernel
theorem dX12_walk_141 : decode cX12_walk 141 = .ok (.aload_n 0, 1) := by decide +kernel
theorem dX12_walk_142 : decode cX12_walk 142 = .ok (.getfield 29, 3) := by decide +kernel
theorem dX12_walk_145 : decode cX12_walk 145 = .ok (.iload_n 3, 1) := by decide +kernel
theorem dX12_walk_146 : decode cX12_walk 146 = .ok (.iaload, 1) := by decide +kernel
theorem dX12_walk_147 : decode cX12_walk 147 = .ok (.iload 6, 2) := by decide +kernel
theorem dX12_walk_149 : decode cX12_walk 149 = .ok (.invokevirtual 192, 3) := by decide +kernel
theorem dX12_walk_152 : decode cX12_walk 152 = .ok (.ifCond .eq 35, 3) := by decide +kernel
theorem dX12_walk_155 : decode cX12_walk 155 = .ok (.aload_n 0, 1) := by decide +kernel
theorem dX12_walk_156 : decode cX12_walk 156 = .ok (.getfield 196, 3) := by decide +kernel
theorem dX12_walk_159 : decode cX12_walk 159 = .ok (.ifCond .eq 12, 3) := by decide +kernel
theorem dX12_walk_162 : decode cX12_walk 162 = .ok (.iload 7, 2) := by decide +kernel
theorem dX12_walk_164 : decode cX12_walk 164 = .ok (.aload_n 0, 1) := by decide +kernel
theorem dX12_walk_165 : decode cX12_walk 165 = .ok (.getfield 196, 3) := by decide +kernel
theorem dX12_walk_168 : decode cX12_walk 168 = .ok (.if_icmp .ne 19, 3) := by decide +kernel
theorem dX12_walk_171 : decode cX12_walk 171 = .ok (.aload_n 0, 1) := by decide +kernel
theorem dX12_walk_172 : decode cX12_walk 172 = .ok (.iload_n 3, 1) := by decide +kernel
theorem dX12_walk_173 : decode cX12_walk 173 = .ok (.iload 5, 2) := by decide +kernel
theorem dX12_walk_175 : decode cX12_walk 175 = .ok (.iload 7, 2) := by decide +kernel
theorem dX12_walk_177 : decode cX12_walk 177 = .ok (.invokevirtual 199, 3) := by decide +kernel
theorem dX12_walk_180 : decode cX12_walk 180 = .ok (.ifCond .eq 7, 3) := by decide +kernel
theorem dX12_walk_183 : decode cX12_walk 183 = .ok (.iconst 1, 1) := by decide +kernel
theorem dX12_walk_184 : decode cX12_walk 184 = .ok (.goto 4, 3) := by decide +kernel
theorem dX12_walk_187 : decode cX12_walk 187 = .ok (.iconst 0, 1) := by decide +kernel
theorem dX12_walk_188 : decode cX12_walk 188 = .ok (.istore 4, 2) := by decide +kernel
theorem dX12_walk_190 : decode cX12_walk 190 = .ok (.iload 4, 2) := by decide +kernel
theorem dX12_walk_192 : decode cX12_walk 192 = .ok (.ifCond .ne 6, 3) := by decide +kernel
theorem dX12_walk_195 : decode cX12_walk 195 = .ok (.goto (-124), 3) := by decide +kernel
theorem dX12_walk_198 : decode cX12_walk 198 = .ok (.aload_n 0, 1) := by decide +kernel
theorem dX12_walk_199 : decode cX12_walk 199 = .ok (.iload_n 3, 1) := by decide +kernel
theorem dX12_walk_200 : decode cX12_walk 200 = .ok (.iload 5, 2) := by decide +kernel
theorem dX12_walk_202 : decode cX12_walk 202 = .ok (.iload 7, 2) := by decide +kernel
theorem dX12_walk_204 : decode cX12_walk 204 = .ok (.invokevirtual 203, 3) := by decide +kernel
theorem dX12_walk_207 : decode cX12_walk 207 = .ok (.pop, 1) := by decide +kernel
theorem dX12_walk_208 : decode cX12_walk 208 = .ok (.aload_n 0, 1) := by decide +kernel
theorem dX12_walk_209 : decode cX12_walk 209 = .ok (.getfield 20, 3) := by decide +kernel
theorem dX12_walk_212 : decode cX12_walk 212 = .ok (.iload_n 3, 1) := by decide +kernel
theorem dX12_walk_213 : decode cX12_walk 213 = .ok (.bipush 32, 2) := by decide +kernel
theorem dX12_walk_215 : decode cX12_walk 215 = .ok (.iload 5, 2) := by decide +kernel
theorem dX12_walk_217 : decode cX12_walk 217 = .ok (.imul, 1) := by decide +kernel
theorem dX12_walk_218 : decode cX12_walk 218 = .ok (.iload 5, 2) := by decide +kernel
theorem dX12_walk_220 : decode cX12_walk 220 = .ok (.iload 7, 2) := by decide +kernel
theorem dX12_walk_222 : decode cX12_walk 222 = .ok (.if_icmp .le 11, 3) := by decide +kernel
theorem dX12_walk_225 : decode cX12_walk 225 = .ok (.iload 5, 2) := by decide +kernel
theorem dX12_walk_227 : decode cX12_walk 227 = .ok (.iload 7, 2) := by decide +kernel
theorem dX12_walk_229 : decode cX12_walk 229 = .ok (.isub, 1) := by decide +kernel
theorem dX12_walk_230 : decode cX12_walk 230 = .ok (.goto 4, 3) := by decide +kernel
theorem dX12_walk_233 : decode cX12_walk 233 = .ok (.iconst 0, 1) := by decide +kernel
theorem dX12_walk_234 : decode cX12_walk 234 = .ok (.iadd, 1) := by decide +kernel
theorem dX12_walk_235 : decode cX12_walk 235 = .ok (.iastore, 1) := by decide +kernel
theorem dX12_walk_236 : decode cX12_walk 236 = .ok (.aload_n 0, 1) := by decide +kernel
theorem dX12_walk_237 : decode cX12_walk 237 = .ok (.getfield 29, 3) := by decide +kernel
theorem dX12_walk_240 : decode cX12_walk 240 = .ok (.iload_n 3, 1) := by decide +kernel
theorem dX12_walk_241 : decode cX12_walk 241 = .ok (.iconst 1, 1) := by decide +kernel
theorem dX12_walk_242 : decode cX12_walk 242 = .ok (.iadd, 1) := by decide +kernel
theorem dX12_walk_243 : decode cX12_walk 243 = .ok (.aload_n 0, 1) := by decide +kernel
theorem dX12_walk_244 : decode cX12_walk 244 = .ok (.aload_n 0, 1) := by decide +kernel
theorem dX12_walk_245 : decode cX12_walk 245 = .ok (.getfield 29, 3) := by decide +kernel
theorem dX12_walk_248 : decode cX12_walk 248 = .ok (.iload_n 3, 1) := by decide +kernel
theorem dX12_walk_249 : decode cX12_walk 249 = .ok (.iaload, 1) := by decide +kernel
theorem dX12_walk_250 : decode cX12_walk 250 = .ok (.iload 6, 2) := by decide +kernel
theorem dX12_walk_252 : decode cX12_walk 252 = .ok (.invokevirtual 206, 3) := by decide +kernel
theorem dX12_walk_255 : decode cX12_walk 255 = .ok (.iastore, 1) := by decide +kernel
theorem dX12_walk_256 : decode cX12_walk 256 = .ok (.goto (-185), 3) := by decide +kernel
theorem dX12_walk_259 : decode cX12_walk 259 = .ok (.iload 4, 2) := by decide +kernel
theorem dX12_walk_261 : decode cX12_walk 261 = .ok (.ifCond .eq 35, 3) := by decide +kernel
theorem dX12_walk_264 : decode cX12_walk 264 = .ok (.iinc 3 1, 3) := by decide +kernel
theorem dX12_walk_267 : decode cX12_walk 267 = .ok (.aload_n 0, 1) := by decide +kernel
theorem dX12_walk_268 : decode cX12_walk 268 = .ok (.getfield 23, 3) := by decide +kernel
theorem dX12_walk_271 : decode cX12_walk 271 = .ok (.iload_n 3, 1) := by decide +kernel
theorem dX12_walk_272 : decode cX12_walk 272 = .ok (.bipush 25, 2) := by decide +kernel
theorem dX12_walk_274 : decode cX12_walk 274 = .ok (.iastore, 1) := by decide +kernel
theorem dX12_walk_275 : decode cX12_walk 275 = .ok (.aload_n 0, 1) := by decide +kernel
theorem dX12_walk_276 : decode cX12_walk 276 = .ok (.getfield 26, 3) := by decide +kernel
theorem dX12_walk_279 : decode cX12_walk 279 = .ok (.iload_n 3, 1) := by decide +kernel
theorem dX12_walk_280 : decode cX12_walk 280 = .ok (.iconst 0, 1) := by decide +kernel
theorem dX12_walk_281 : decode cX12_walk 281 = .ok (.iastore, 1) := by decide +kernel
theorem dX12_walk_282 : decode cX12_walk 282 = .ok (.iload_n 3, 1) := by decide +kernel
theorem dX12_walk_283 : decode cX12_walk 283 = .ok (.iload_n 2, 1) := by decide +kernel
theorem dX12_walk_284 : decode cX12_walk 284 = .ok (.if_icmp .le 7, 3) := by decide +kernel
theorem dX12_walk_287 : decode cX12_walk 287 = .ok (.iload_n 3, 1) := by decide +kernel
theorem dX12_walk_288 : decode cX12_walk 288 = .ok (.goto 4, 3) := by decide +kernel
theorem dX12_walk_291 : decode cX12_walk 291 = .ok (.iload_n 2, 1) := by decide +kernel
theorem dX12_walk_292 : decode cX12_walk 292 = .ok (.istore_n 2, 1) := by decide +kernel
theorem dX12_walk_293 : decode cX12_walk 293 = .ok (.goto 6, 3) := by decide +kernel
theorem dX12_walk_296 : decode cX12_walk 296 = .ok (.iinc 3 (-1), 3) := by decide +kernel
theorem dX12_walk_299 : decode cX12_walk 299 = .ok (.goto (-258), 3) := by decide +kernel
theorem dX12_walk_302 : decode cX12_walk 302 = .ok (.iload_n 2, 1) := by decide +kernel
theorem dX12_walk_303 : decode cX12_walk 303 = .ok (.ireturn, 1) := by decide +kernel
theorem dX12_isLeft_0 : decode cX12_isLeft 0 = .ok (.aload_n 0, 1) := by decide +kernel
theorem dX12_isLeft_1 : decode cX12_isLeft 1 = .ok (.getfield 179, 3) := by decide +kernel
theorem dX12_isLeft_4 : decode cX12_isLeft 4 = .ok (.aload_n 0, 1) := by decide +kernel
theorem dX12_isLeft_5 : decode cX12_isLeft 5 = .ok (.getfield 182, 3) := by decide +kernel
theorem dX12_isLeft_8 : decode cX12_isLeft 8 = .ok (.if_icmp .ne 19, 3) := by decide +kernel
theorem dX12_isLeft_11 : decode cX12_isLeft 11 = .ok (.iload_n 1, 1) := by decide +kernel
theorem dX12_isLeft_12 : decode cX12_isLeft 12 = .ok (.ifCond .le 11, 3) := by decide +kernel
theorem dX12_isLeft_15 : decode cX12_isLeft 15 = .ok (.iload_n 2, 1) := by decide +kernel
theorem dX12_isLeft_16 : decode cX12_isLeft 16 = .ok (.ifCond .ne 7, 3) := by decide +kernel
theorem dX12_isLeft_19 : decode cX12_isLeft 19 = .ok (.iconst 1, 1) := by decide +kernel
theorem dX12_isLeft_20 : decode cX12_isLeft 20 = .ok (.goto 21, 3) := by decide +kernel
theorem dX12_isLeft_23 : decode cX12_isLeft 23 = .ok (.iconst 0, 1) := by decide +kernel
theorem dX12_isLeft_24 : decode cX12_isLeft 24 = .ok (.goto 17, 3) := by decide +kernel
theorem dX12_isLeft_27 : decode cX12_isLeft 27 = .ok (.iload_n 1, 1) := by decide +kernel
theorem dX12_isLeft_28 : decode cX12_isLeft 28 = .ok (.iload_n 2, 1) := by decide +kernel
theorem dX12_isLeft_29 : decode cX12_isLeft 29 = .ok (.ishr, 1) := by decide +kernel
theorem dX12_isLeft_30 : decode cX12_isLeft 30 = .ok (.iconst 1, 1) := by decide +kernel
theorem dX12_isLeft_31 : decode cX12_isLeft 31 = .ok (.iand, 1) := by decide +kernel
theorem dX12_isLeft_32 : decode cX12_isLeft 32 = .ok (.iconst 1, 1) := by decide +kernel
theorem dX12_isLeft_33 : decode cX12_isLeft 33 = .ok (.if_icmp .ne 7, 3) := by decide +kernel
theorem dX12_isLeft_36 : decode cX12_isLeft 36 = .ok (.iconst 1, 1) := by decide +kernel
theorem dX12_isLeft_37 : decode cX12_isLeft 37 = .ok (.goto 4, 3) := by decide +kernel
theorem dX12_isLeft_40 : decode cX12_isLeft 40 = .ok (.iconst 0, 1) := by decide +kernel
theorem dX12_isLeft_41 : decode cX12_isLeft 41 = .ok (.ireturn, 1) := by decide +kernel
theorem dX12_without_0 : decode cX12_without 0 = .ok (.aload_n 0, 1) := by decide +kernel
theorem dX12_without_1 : decode cX12_without 1 = .ok (.getfield 179, 3) := by decide +kernel
theorem dX12_without_4 : decode cX12_without 4 = .ok (.aload_n 0, 1) := by decide +kernel
theorem dX12_without_5 : decode cX12_without 5 = .ok (.getfield 182, 3) := by decide +kernel
theorem dX12_without_8 : decode cX12_without 8 = .ok (.if_icmp .ne 9, 3) := by decide +kernel
theorem dX12_without_11 : decode cX12_without 11 = .ok (.iload_n 1, 1) := by decide +kernel
theorem dX12_without_12 : decode cX12_without 12 = .ok (.iconst 1, 1) := by decide +kernel
theorem dX12_without_13 : decode cX12_without 13 = .ok (.isub, 1) := by decide +kernel
theorem dX12_without_14 : decode cX12_without 14 = .ok (.goto 10, 3) := by decide +kernel
theorem dX12_without_17 : decode cX12_without 17 = .ok (.iload_n 1, 1) := by decide +kernel
theorem dX12_without_18 : decode cX12_without 18 = .ok (.iconst 1, 1) := by decide +kernel
theorem dX12_without_19 : decode cX12_without 19 = .ok (.iload_n 2, 1) := by decide +kernel
theorem dX12_without_20 : decode cX12_without 20 = .ok (.ishl, 1) := by decide +kernel
theorem dX12_without_21 : decode cX12_without 21 = .ok (.iconst (-1), 1) := by decide +kernel
theorem dX12_without_22 : decode cX12_without 22 = .ok (.ixor, 1) := by decide +kernel
theorem dX12_without_23 : decode cX12_without 23 = .ok (.iand, 1) := by decide +kernel
theorem dX12_without_24 : decode cX12_without 24 = .ok (.ireturn, 1) := by decide +kernel
theorem dX12_beginPlays_0 : decode cX12_beginPlays 0 = .ok (.aload_n 0, 1) := by decide +kernel
theorem dX12_beginPlays_1 : decode cX12_beginPlays 1 = .ok (.iload_n 1, 1) := by decide +kernel
theorem dX12_beginPlays_2 : decode cX12_beginPlays 2 = .ok (.iload_n 2, 1) := by decide +kernel
theorem dX12_beginPlays_3 : decode cX12_beginPlays 3 = .ok (.if_icmp .ge 7, 3) := by decide +kernel
theorem dX12_beginPlays_6 : decode cX12_beginPlays 6 = .ok (.iload_n 1, 1) := by decide +kernel
theorem dX12_beginPlays_7 : decode cX12_beginPlays 7 = .ok (.goto 4, 3) := by decide +kernel
theorem dX12_beginPlays_10 : decode cX12_beginPlays 10 = .ok (.iload_n 2, 1) := by decide +kernel
theorem dX12_beginPlays_11 : decode cX12_beginPlays 11 = .ok (.putfield 179, 3) := by decide +kernel
theorem dX12_beginPlays_14 : decode cX12_beginPlays 14 = .ok (.aload_n 0, 1) := by decide +kernel
theorem dX12_beginPlays_15 : decode cX12_beginPlays 15 = .ok (.iload_n 1, 1) := by decide +kernel
theorem dX12_beginPlays_16 : decode cX12_beginPlays 16 = .ok (.iload_n 2, 1) := by decide +kernel
theorem dX12_beginPlays_17 : decode cX12_beginPlays 17 = .ok (.if_icmp .ge 7, 3) := by decide +kernel
theorem dX12_beginPlays_20 : decode cX12_beginPlays 20 = .ok (.iload_n 2, 1) := by decide +kernel
theorem dX12_beginPlays_21 : decode cX12_beginPlays 21 = .ok (.goto 4, 3) := by decide +kernel
theorem dX12_beginPlays_24 : decode cX12_beginPlays 24 = .ok (.iload_n 1, 1) := by decide +kernel
theorem dX12_beginPlays_25 : decode cX12_beginPlays 25 = .ok (.putfield 182, 3) := by decide +kernel
theorem dX12_beginPlays_28 : decode cX12_beginPlays 28 = .ok (.aload_n 0, 1) := by decide +kernel
theorem dX12_beginPlays_29 : decode cX12_beginPlays 29 = .ok (.aload_n 0, 1) := by decide +kernel
theorem dX12_beginPlays_30 : decode cX12_beginPlays 30 = .ok (.getfield 149, 3) := by decide +kernel
theorem dX12_beginPlays_33 : decode cX12_beginPlays 33 = .ok (.putfield 176, 3) := by decide +kernel
theorem dX12_beginPlays_36 : decode cX12_beginPlays 36 = .ok (.iconst 0, 1) := by decide +kernel
theorem dX12_beginPlays_37 : decode cX12_beginPlays 37 = .ok (.istore_n 3, 1) := by decide +kernel
theorem dX12_beginPlays_38 : decode cX12_beginPlays 38 = .ok (.iload_n 3, 1) := by decide +kernel
theorem dX12_beginPlays_39 : decode cX12_beginPlays 39 = .ok (.bipush 52, 2) := by decide +kernel
theorem dX12_beginPlays_41 : decode cX12_beginPlays 41 = .ok (.if_icmp .ge 21, 3) := by decide +kernel
theorem dX12_beginPlays_44 : decode cX12_beginPlays 44 = .ok (.aload_n 0, 1) := by decide +kernel
theorem dX12_beginPlays_45 : decode cX12_beginPlays 45 = .ok (.getfield 17, 3) := by decide +kernel
theorem dX12_beginPlays_48 : decode cX12_beginPlays 48 = .ok (.iload_n 3, 1) := by decide +kernel
theorem dX12_beginPlays_49 : decode cX12_beginPlays 49 = .ok (.aload_n 0, 1) := by decide +kernel
theorem dX12_beginPlays_50 : decode cX12_beginPlays 50 = .ok (.getfield 13, 3) := by decide +kernel
theorem dX12_beginPlays_53 : decode cX12_beginPlays 53 = .ok (.iload_n 3, 1) := by decide +kernel
theorem dX12_beginPlays_54 : decode cX12_beginPlays 54 = .ok (.iaload, 1) := by decide +kernel
theorem dX12_beginPlays_55 : decode cX12_beginPlays 55 = .ok (.iastore, 1) := by decide +kernel
theorem dX12_beginPlays_56 : decode cX12_beginPlays 56 = .ok (.iinc 3 1, 3) := by decide +kernel
theorem dX12_beginPlays_59 : decode cX12_beginPlays 59 = .ok (.goto (-21), 3) := by decide +kernel
theorem dX12_beginPlays_62 : decode cX12_beginPlays 62 = .ok (.aload_n 0, 1) := by decide +kernel
theorem dX12_beginPlays_63 : decode cX12_beginPlays 63 = .ok (.iconst 0, 1) := by decide +kernel
theorem dX12_beginPlays_64 : decode cX12_beginPlays 64 = .ok (.putfield 196, 3) := by decide +kernel
theorem dX12_beginPlays_67 : decode cX12_beginPlays 67 = .ok (.aload_n 0, 1) := by decide +kernel
theorem dX12_beginPlays_68 : decode cX12_beginPlays 68 = .ok (.aload_n 0, 1) := by decide +kernel
theorem dX12_beginPlays_69 : decode cX12_beginPlays 69 = .ok (.invokevirtual 163, 3) := by decide +kernel
theorem dX12_beginPlays_72 : decode cX12_beginPlays 72 = .ok (.ifCond .eq 7, 3) := by decide +kernel
theorem dX12_beginPlays_75 : decode cX12_beginPlays 75 = .ok (.iconst 0, 1) := by decide +kernel
theorem dX12_beginPlays_76 : decode cX12_beginPlays 76 = .ok (.goto 8, 3) := by decide +kernel
theorem dX12_beginPlays_79 : decode cX12_beginPlays 79 = .ok (.aload_n 0, 1) := by decide +kernel
theorem dX12_beginPlays_80 : decode cX12_beginPlays 80 = .ok (.iconst 0, 1) := by decide +kernel
theorem dX12_beginPlays_81 : decode cX12_beginPlays 81 = .ok (.invokevirtual 210, 3) := by decide +kernel
theorem dX12_beginPlays_84 : decode cX12_beginPlays 84 = .ok (.putfield 185, 3) := by decide +kernel
theorem dX12_beginPlays_87 : decode cX12_beginPlays 87 = .ok (.aload_n 0, 1) := by decide +kernel
theorem dX12_beginPlays_88 : decode cX12_beginPlays 88 = .ok (.getfield 185, 3) := by decide +kernel
theorem dX12_beginPlays_91 : decode cX12_beginPlays 91 = .ok (.iconst 1, 1) := by decide +kernel
theorem dX12_beginPlays_92 : decode cX12_beginPlays 92 = .ok (.if_icmp .ne 14, 3) := by decide +kernel
theorem dX12_beginPlays_95 : decode cX12_beginPlays 95 = .ok (.aload_n 0, 1) := by decide +kernel
theorem dX12_beginPlays_96 : decode cX12_beginPlays 96 = .ok (.getfield 179, 3) := by decide +kernel
theorem dX12_beginPlays_99 : decode cX12_beginPlays 99 = .ok (.aload_n 0, 1) := by decide +kernel
theorem dX12_beginPlays_100 : decode cX12_beginPlays 100 = .ok (.getfield 182, 3) := by decide +kernel
theorem dX12_beginPlays_103 : decode cX12_beginPlays 103 = .ok (.if_icmp .ne 4, 3) := by decide +kernel
theorem dX12_beginPlays_106 : decode cX12_beginPlays 106 = .ok (.return_, 1) := by decide +kernel
theorem dX12_beginPlays_107 : decode cX12_beginPlays 107 = .ok (.bipush 25, 2) := by decide +kernel
theorem dX12_beginPlays_109 : decode cX12_beginPlays 109 = .ok (.istore_n 3, 1) := by decide +kernel
theorem dX12_beginPlays_110 : decode cX12_beginPlays 110 = .ok (.iload_n 3, 1) := by decide +kernel
theorem dX12_beginPlays_111 : decode cX12_beginPlays 111 = .ok (.ifCond .le 37, 3) := by decide +kernel
theorem dX12_beginPlays_114 : decode cX12_beginPlays 114 = .ok (.aload_n 0, 1) := by decide +kernel
theorem dX12_beginPlays_115 : decode cX12_beginPlays 115 = .ok (.aload_n 0, 1) := by decide +kernel
theorem dX12_beginPlays_116 : decode cX12_beginPlays 116 = .ok (.iconst 0, 1) := by decide +kernel
theorem dX12_beginPlays_117 : decode cX12_beginPlays 117 = .ok (.iload_n 3, 1) := by decide +kernel
theorem dX12_beginPlays_118 : decode cX12_beginPlays 118 = .ok (.aload_n 0, 1) := by decide +kernel
theorem dX12_beginPlays_119 : decode cX12_beginPlays 119 = .ok (.getfield 182, 3) := by decide +kernel
theorem dX12_beginPlays_122 : decode cX12_beginPlays 122 = .ok (.invokevirtual 199, 3) := by decide +kernel
theorem dX12_beginPlays_125 : decode cX12_beginPlays 125 = .ok (.ifCond .eq 10, 3) := by decide +kernel
theorem dX12_beginPlays_128 : decode cX12_beginPlays 128 = .ok (.aload_n 0, 1) := by decide +kernel
theorem dX12_beginPlays_129 : decode cX12_beginPlays 129 = .ok (.getfield 182, 3) := by decide +kernel
theorem dX12_beginPlays_132 : decode cX12_beginPlays 132 = .ok (.goto 7, 3) := by decide +kernel
theorem dX12_beginPlays_135 : decode cX12_beginPlays 135 = .ok (.aload_n 0, 1) := by decide +kernel
theorem dX12_beginPlays_136 : decode cX12_beginPlays 136 = .ok (.getfield 196, 3) := by decide +kernel
theorem dX12_beginPlays_139 : decode cX12_beginPlays 139 = .ok (.putfield 196, 3) := by decide +kernel
theorem dX12_beginPlays_142 : decode cX12_beginPlays 142 = .ok (.iinc 3 (-1), 3) := by decide +kernel
theorem dX12_beginPlays_145 : decode cX12_beginPlays 145 = .ok (.goto (-35), 3) := by decide +kernel
theorem dX12_beginPlays_148 : decode cX12_beginPlays 148 = .ok (.return_, 1) := by decide +kernel
theorem dX12_against_0 : decode cX12_against 0 = .ok (.iconst 0, 1) := by decide +kernel
theorem dX12_against_1 : decode cX12_against 1 = .ok (.istore_n 3, 1) := by decide +kernel
theorem dX12_against_2 : decode cX12_against 2 = .ok (.iload_n 3, 1) := by decide +kernel
theorem dX12_against_3 : decode cX12_against 3 = .ok (.iconst 2, 1) := by decide +kernel
theorem dX12_against_4 : decode cX12_against 4 = .ok (.if_icmp .ge 87, 3) := by decide +kernel
theorem dX12_against_7 : decode cX12_against 7 = .ok (.bipush 26, 2) := by decide +kernel
theorem dX12_against_9 : decode cX12_against 9 = .ok (.iload_n 3, 1) := by decide +kernel
theorem dX12_against_10 : decode cX12_against 10 = .ok (.ifCond .ne 10, 3) := by decide +kernel
theorem dX12_against_13 : decode cX12_against 13 = .ok (.aload_n 0, 1) := by decide +kernel
theorem dX12_against_14 : decode cX12_against 14 = .ok (.getfield 176, 3) := by decide +kernel
theorem dX12_against_17 : decode cX12_against 17 = .ok (.goto 9, 3) := by decide +kernel
theorem dX12_against_20 : decode cX12_against 20 = .ok (.iconst 1, 1) := by decide +kernel
theorem dX12_against_21 : decode cX12_against 21 = .ok (.aload_n 0, 1) := by decide +kernel
theorem dX12_against_22 : decode cX12_against 22 = .ok (.getfield 176, 3) := by decide +kernel
theorem dX12_against_25 : decode cX12_against 25 = .ok (.isub, 1) := by decide +kernel
theorem dX12_against_26 : decode cX12_against 26 = .ok (.imul, 1) := by decide +kernel
theorem dX12_against_27 : decode cX12_against 27 = .ok (.istore 4, 2) := by decide +kernel
theorem dX12_against_29 : decode cX12_against 29 = .ok (.bipush 25, 2) := by decide +kernel
theorem dX12_against_31 : decode cX12_against 31 = .ok (.istore 5, 2) := by decide +kernel
theorem dX12_against_33 : decode cX12_against 33 = .ok (.iload 5, 2) := by decide +kernel
theorem dX12_against_35 : decode cX12_against 35 = .ok (.ifCond .lt 50, 3) := by decide +kernel
theorem dX12_against_38 : decode cX12_against 38 = .ok (.aload_n 0, 1) := by decide +kernel
theorem dX12_against_39 : decode cX12_against 39 = .ok (.getfield 33, 3) := by decide +kernel
theorem dX12_against_42 : decode cX12_against 42 = .ok (.bipush 52, 2) := by decide +kernel
theorem dX12_against_44 : decode cX12_against 44 = .ok (.iload_n 2, 1) := by decide +kernel
theorem dX12_against_45 : decode cX12_against 45 = .ok (.imul, 1) := by decide +kernel
theorem dX12_against_46 : decode cX12_against 46 = .ok (.iload 4, 2) := by decide +kernel
theorem dX12_against_48 : decode cX12_against 48 = .ok (.iadd, 1) := by decide +kernel
theorem dX12_against_49 : decode cX12_against 49 = .ok (.iload 5, 2) := by decide +kernel
theorem dX12_against_51 : decode cX12_against 51 = .ok (.iadd, 1) := by decide +kernel
theorem dX12_against_52 : decode cX12_against 52 = .ok (.iaload, 1) := by decide +kernel
theorem dX12_against_53 : decode cX12_against 53 = .ok (.aload_n 0, 1) := by decide +kernel
theorem dX12_against_54 : decode cX12_against 54 = .ok (.getfield 17, 3) := by decide +kernel
theorem dX12_against_57 : decode cX12_against 57 = .ok (.bipush 52, 2) := by decide +kernel
theorem dX12_against_59 : decode cX12_against 59 = .ok (.iload_n 1, 1) := by decide +kernel
theorem dX12_against_60 : decode cX12_against 60 = .ok (.imul, 1) := by decide +kernel
theorem dX12_against_61 : decode cX12_against 61 = .ok (.iload 4, 2) := by decide +kernel
theorem dX12_against_63 : decode cX12_against 63 = .ok (.iadd, 1) := by decide +kernel
theorem dX12_against_64 : decode cX12_against 64 = .ok (.iload 5, 2) := by decide +kernel
theorem dX12_against_66 : decode cX12_against 66 = .ok (.iadd, 1) := by decide +kernel
theorem dX12_against_67 : decode cX12_against 67 = .ok (.iaload, 1) := by decide +kernel
theorem dX12_against_68 : decode cX12_against 68 = .ok (.isub, 1) := by decide +kernel
theorem dX12_against_69 : decode cX12_against 69 = .ok (.istore 6, 2) := by decide +kernel
theorem dX12_against_71 : decode cX12_against 71 = .ok (.iload 6, 2) := by decide +kernel
theorem dX12_against_73 : decode cX12_against 73 = .ok (.ifCond .eq 6, 3) := by decide +kernel
theorem dX12_against_76 : decode cX12_against 76 = .ok (.iload 6, 2) := by decide +kernel
theorem dX12_against_78 : decode cX12_against 78 = .ok (.ireturn, 1) := by decide +kernel
theorem dX12_against_79 : decode cX12_against 79 = .ok (.iinc 5 (-1), 3) := by decide +kernel
theorem dX12_against_82 : decode cX12_against 82 = .ok (.goto (-49), 3) := by decide +kernel
theorem dX12_against_85 : decode cX12_against 85 = .ok (.iinc 3 1, 3) := by decide +kernel
theorem dX12_against_88 : decode cX12_against 88 = .ok (.goto (-86), 3) := by decide +kernel
theorem dX12_against_91 : decode cX12_against 91 = .ok (.iconst 0, 1) := by decide +kernel
theorem dX12_against_92 : decode cX12_against 92 = .ok (.ireturn, 1) := by decide +kernel
theorem dX12_find_0 : decode cX12_find 0 = .ok (.iconst 0, 1) := by decide +kernel
theorem dX12_find_1 : decode cX12_find 1 = .ok (.istore_n 2, 1) := by decide +kernel
theorem dX12_find_2 : decode cX12_find 2 = .ok (.aload_n 0, 1) := by decide +kernel
theorem dX12_find_3 : decode cX12_find 3 = .ok (.getfield 152, 3) := by decide +kernel
theorem dX12_find_6 : decode cX12_find 6 = .ok (.istore_n 3, 1) := by decide +kernel
theorem dX12_find_7 : decode cX12_find 7 = .ok (.iload_n 2, 1) := by decide +kernel
theorem dX12_find_8 : decode cX12_find 8 = .ok (.iload_n 3, 1) := by decide +kernel
theorem dX12_find_9 : decode cX12_find 9 = .ok (.if_icmp .ge 39, 3) := by decide +kernel
theorem dX12_find_12 : decode cX12_find 12 = .ok (.iload_n 2, 1) := by decide +kernel
theorem dX12_find_13 : decode cX12_find 13 = .ok (.iload_n 3, 1) := by decide +kernel
theorem dX12_find_14 : decode cX12_find 14 = .ok (.iadd, 1) := by decide +kernel
theorem dX12_find_15 : decode cX12_find 15 = .ok (.iconst 2, 1) := by decide +kernel
theorem dX12_find_16 : decode cX12_find 16 = .ok (.idiv, 1) := by decide +kernel
theorem dX12_find_17 : decode cX12_find 17 = .ok (.istore 4, 2) := by decide +kernel
theorem dX12_find_19 : decode cX12_find 19 = .ok (.aload_n 0, 1) := by decide +kernel
theorem dX12_find_20 : decode cX12_find 20 = .ok (.iload_n 1, 1) := by decide +kernel
theorem dX12_find_21 : decode cX12_find 21 = .ok (.aload_n 0, 1) := by decide +kernel
theorem dX12_find_22 : decode cX12_find 22 = .ok (.getfield 39, 3) := by decide +kernel
theorem dX12_find_25 : decode cX12_find 25 = .ok (.iload 4, 2) := by decide +kernel
theorem dX12_find_27 : decode cX12_find 27 = .ok (.iaload, 1) := by decide +kernel
theorem dX12_find_28 : decode cX12_find 28 = .ok (.invokevirtual 214, 3) := by decide +kernel
theorem dX12_find_31 : decode cX12_find 31 = .ok (.ifCond .gt 9, 3) := by decide +kernel
theorem dX12_find_34 : decode cX12_find 34 = .ok (.iload 4, 2) := by decide +kernel
theorem dX12_find_36 : decode cX12_find 36 = .ok (.istore_n 3, 1) := by decide +kernel
theorem dX12_find_37 : decode cX12_find 37 = .ok (.goto 8, 3) := by decide +kernel
theorem dX12_find_40 : decode cX12_find 40 = .ok (.iload 4, 2) := by decide +kernel
theorem dX12_find_42 : decode cX12_find 42 = .ok (.iconst 1, 1) := by decide +kernel
theorem dX12_find_43 : decode cX12_find 43 = .ok (.iadd, 1) := by decide +kernel
theorem dX12_find_44 : decode cX12_find 44 = .ok (.istore_n 2, 1) := by decide +kernel
theorem dX12_find_45 : decode cX12_find 45 = .ok (.goto (-38), 3) := by decide +kernel
theorem dX12_find_48 : decode cX12_find 48 = .ok (.iload_n 2, 1) := by decide +kernel
theorem dX12_find_49 : decode cX12_find 49 = .ok (.ireturn, 1) := by decide +kernel
theorem dX12_keep_0 : decode cX12_keep 0 = .ok (.aload_n 0, 1) := by decide +kernel
theorem dX12_keep_1 : decode cX12_keep 1 = .ok (.iload_n 1, 1) := by decide +kernel
theorem dX12_keep_2 : decode cX12_keep 2 = .ok (.invokevirtual 217, 3) := by decide +kernel
theorem dX12_keep_5 : decode cX12_keep 5 = .ok (.istore_n 2, 1) := by decide +kernel
theorem dX12_keep_6 : decode cX12_keep 6 = .ok (.iload_n 2, 1) := by decide +kernel
theorem dX12_keep_7 : decode cX12_keep 7 = .ok (.aload_n 0, 1) := by decide +kernel
theorem dX12_keep_8 : decode cX12_keep 8 = .ok (.getfield 152, 3) := by decide +kernel
theorem dX12_keep_11 : decode cX12_keep 11 = .ok (.if_icmp .ge 119, 3) := by decide +kernel
theorem dX12_keep_14 : decode cX12_keep 14 = .ok (.aload_n 0, 1) := by decide +kernel
theorem dX12_keep_15 : decode cX12_keep 15 = .ok (.iload_n 1, 1) := by decide +kernel
theorem dX12_keep_16 : decode cX12_keep 16 = .ok (.aload_n 0, 1) := by decide +kernel
theorem dX12_keep_17 : decode cX12_keep 17 = .ok (.getfield 39, 3) := by decide +kernel
theorem dX12_keep_20 : decode cX12_keep 20 = .ok (.iload_n 2, 1) := by decide +kernel
theorem dX12_keep_21 : decode cX12_keep 21 = .ok (.iaload, 1) := by decide +kernel
theorem dX12_keep_22 : decode cX12_keep 22 = .ok (.invokevirtual 214, 3) := by decide +kernel
theorem dX12_keep_25 : decode cX12_keep 25 = .ok (.ifCond .ne 105, 3) := by decide +kernel
theorem dX12_keep_28 : decode cX12_keep 28 = .ok (.aload_n 0, 1) := by decide +kernel
theorem dX12_keep_29 : decode cX12_keep 29 = .ok (.getfield 39, 3) := by decide +kernel
theorem dX12_keep_32 : decode cX12_keep 32 = .ok (.iload_n 2, 1) := by decide +kernel
theorem dX12_keep_33 : decode cX12_keep 33 = .ok (.iaload, 1) := by decide +kernel
theorem dX12_keep_34 : decode cX12_keep 34 = .ok (.istore_n 3, 1) := by decide +kernel
theorem dX12_keep_35 : decode cX12_keep 35 = .ok (.iconst 0, 1) := by decide +kernel
theorem dX12_keep_36 : decode cX12_keep 36 = .ok (.istore 4, 2) := by decide +kernel
theorem dX12_keep_38 : decode cX12_keep 38 = .ok (.iload 4, 2) := by decide +kernel
theorem dX12_keep_40 : decode cX12_keep 40 = .ok (.iload_n 1, 1) := by decide +kernel
theorem dX12_keep_41 : decode cX12_keep 41 = .ok (.if_icmp .ge 88, 3) := by decide +kernel
theorem dX12_keep_44 : decode cX12_keep 44 = .ok (.aload_n 0, 1) := by decide +kernel
theorem dX12_keep_45 : decode cX12_keep 45 = .ok (.getfield 20, 3) := by decide +kernel
theorem dX12_keep_48 : decode cX12_keep 48 = .ok (.iload 4, 2) := by decide +kernel
theorem dX12_keep_50 : decode cX12_keep 50 = .ok (.iaload, 1) := by decide +kernel
theorem dX12_keep_51 : decode cX12_keep 51 = .ok (.aload_n 0, 1) := by decide +kernel
theorem dX12_keep_52 : decode cX12_keep 52 = .ok (.getfield 36, 3) := by decide +kernel
theorem dX12_keep_55 : decode cX12_keep 55 = .ok (.iconst 4, 1) := by decide +kernel
theorem dX12_keep_56 : decode cX12_keep 56 = .ok (.iload_n 3, 1) := by decide +kernel
theorem dX12_keep_57 : decode cX12_keep 57 = .ok (.imul, 1) := by decide +kernel
theorem dX12_keep_58 : decode cX12_keep 58 = .ok (.iload 4, 2) := by decide +kernel
theorem dX12_keep_60 : decode cX12_keep 60 = .ok (.iadd, 1) := by decide +kernel
theorem dX12_keep_61 : decode cX12_keep 61 = .ok (.iaload, 1) := by decide +kernel
theorem dX12_keep_62 : decode cX12_keep 62 = .ok (.if_icmp .ne 6, 3) := by decide +kernel
theorem dX12_keep_65 : decode cX12_keep 65 = .ok (.goto 58, 3) := by decide +kernel
theorem dX12_keep_68 : decode cX12_keep 68 = .ok (.aload_n 0, 1) := by decide +kernel
theorem dX12_keep_69 : decode cX12_keep 69 = .ok (.getfield 20, 3) := by decide +kernel
theorem dX12_keep_72 : decode cX12_keep 72 = .ok (.iload 4, 2) := by decide +kernel
theorem dX12_keep_74 : decode cX12_keep 74 = .ok (.iaload, 1) := by decide +kernel
theorem dX12_keep_75 : decode cX12_keep 75 = .ok (.aload_n 0, 1) := by decide +kernel
theorem dX12_keep_76 : decode cX12_keep 76 = .ok (.getfield 36, 3) := by decide +kernel
theorem dX12_keep_79 : decode cX12_keep 79 = .ok (.iconst 4, 1) := by decide +kernel
theorem dX12_keep_80 : decode cX12_keep 80 = .ok (.iload_n 3, 1) := by decide +kernel
theorem dX12_keep_81 : decode cX12_keep 81 = .ok (.imul, 1) := by decide +kernel
theorem dX12_keep_82 : decode cX12_keep 82 = .ok (.iload 4, 2) := by decide +kernel
theorem dX12_keep_84 : decode cX12_keep 84 = .ok (.iadd, 1) := by decide +kernel
theorem dX12_keep_85 : decode cX12_keep 85 = .ok (.iaload, 1) := by decide +kernel
theorem dX12_keep_86 : decode cX12_keep 86 = .ok (.if_icmp .le 36, 3) := by decide +kernel
theorem dX12_keep_89 : decode cX12_keep 89 = .ok (.iconst 0, 1) := by decide +kernel
theorem dX12_keep_90 : decode cX12_keep 90 = .ok (.istore 5, 2) := by decide +kernel
theorem dX12_keep_92 : decode cX12_keep 92 = .ok (.iload 5, 2) := by decide +kernel
theorem dX12_keep_94 : decode cX12_keep 94 = .ok (.iload_n 1, 1) := by decide +kernel
theorem dX12_keep_95 : decode cX12_keep 95 = .ok (.if_icmp .ge 27, 3) := by decide +kernel
theorem dX12_keep_98 : decode cX12_keep 98 = .ok (.aload_n 0, 1) := by decide +kernel
theorem dX12_keep_99 : decode cX12_keep 99 = .ok (.getfield 36, 3) := by decide +kernel
theorem dX12_keep_102 : decode cX12_keep 102 = .ok (.iconst 4, 1) := by decide +kernel
theorem dX12_keep_103 : decode cX12_keep 103 = .ok (.iload_n 3, 1) := by decide +kernel
theorem dX12_keep_104 : decode cX12_keep 104 = .ok (.imul, 1) := by decide +kernel
theorem dX12_keep_105 : decode cX12_keep 105 = .ok (.iload 5, 2) := by decide +kernel
theorem dX12_keep_107 : decode cX12_keep 107 = .ok (.iadd, 1) := by decide +kernel
theorem dX12_keep_108 : decode cX12_keep 108 = .ok (.aload_n 0, 1) := by decide +kernel
theorem dX12_keep_109 : decode cX12_keep 109 = .ok (.getfield 20, 3) := by decide +kernel
theorem dX12_keep_112 : decode cX12_keep 112 = .ok (.iload 5, 2) := by decide +kernel
theorem dX12_keep_114 : decode cX12_keep 114 = .ok (.iaload, 1) := by decide +kernel
theorem dX12_keep_115 : decode cX12_keep 115 = .ok (.iastore, 1) := by decide +kernel
theorem dX12_keep_116 : decode cX12_keep 116 = .ok (.iinc 5 1, 3) := by decide +kernel
theorem dX12_keep_119 : decode cX12_keep 119 = .ok (.goto (-27), 3) := by decide +kernel
theorem dX12_keep_122 : decode cX12_keep 122 = .ok (.return_, 1) := by decide +kernel
theorem dX12_keep_123 : decode cX12_keep 123 = .ok (.iinc 4 1, 3) := by decide +kernel
theorem dX12_keep_126 : decode cX12_keep 126 = .ok (.goto (-88), 3) := by decide +kernel
theorem dX12_keep_129 : decode cX12_keep 129 = .ok (.return_, 1) := by decide +kernel
theorem dX12_keep_130 : decode cX12_keep 130 = .ok (.aload_n 0, 1) := by decide +kernel
theorem dX12_keep_131 : decode cX12_keep 131 = .ok (.getfield 152, 3) := by decide +kernel
theorem dX12_keep_134 : decode cX12_keep 134 = .ok (.istore_n 3, 1) := by decide +kernel
theorem dX12_keep_135 : decode cX12_keep 135 = .ok (.iload_n 3, 1) := by decide +kernel
theorem dX12_keep_136 : decode cX12_keep 136 = .ok (.iload_n 2, 1) := by decide +kernel
theorem dX12_keep_137 : decode cX12_keep 137 = .ok (.if_icmp .le 23, 3) := by decide +kernel
theorem dX12_keep_140 : decode cX12_keep 140 = .ok (.aload_n 0, 1) := by decide +kernel
theorem dX12_keep_141 : decode cX12_keep 141 = .ok (.getfield 39, 3) := by decide +kernel
theorem dX12_keep_144 : decode cX12_keep 144 = .ok (.iload_n 3, 1) := by decide +kernel
theorem dX12_keep_145 : decode cX12_keep 145 = .ok (.aload_n 0, 1) := by decide +kernel
theorem dX12_keep_146 : decode cX12_keep 146 = .ok (.getfield 39, 3) := by decide +kernel
theorem dX12_keep_149 : decode cX12_keep 149 = .ok (.iload_n 3, 1) := by decide +kernel
theorem dX12_keep_150 : decode cX12_keep 150 = .ok (.iconst 1, 1) := by decide +kernel
theorem dX12_keep_151 : decode cX12_keep 151 = .ok (.isub, 1) := by decide +kernel
theorem dX12_keep_152 : decode cX12_keep 152 = .ok (.iaload, 1) := by decide +kernel
theorem dX12_keep_153 : decode cX12_keep 153 = .ok (.iastore, 1) := by decide +kernel
theorem dX12_keep_154 : decode cX12_keep 154 = .ok (.iinc 3 (-1), 3) := by decide +kernel
theorem dX12_keep_157 : decode cX12_keep 157 = .ok (.goto (-22), 3) := by decide +kernel
theorem dX12_keep_160 : decode cX12_keep 160 = .ok (.aload_n 0, 1) := by decide +kernel
theorem dX12_keep_161 : decode cX12_keep 161 = .ok (.getfield 39, 3) := by decide +kernel
theorem dX12_keep_164 : decode cX12_keep 164 = .ok (.iload_n 2, 1) := by decide +kernel
theorem dX12_keep_165 : decode cX12_keep 165 = .ok (.aload_n 0, 1) := by decide +kernel
theorem dX12_keep_166 : decode cX12_keep 166 = .ok (.getfield 152, 3) := by decide +kernel
theorem dX12_keep_169 : decode cX12_keep 169 = .ok (.iastore, 1) := by decide +kernel
theorem dX12_keep_170 : decode cX12_keep 170 = .ok (.iconst 0, 1) := by decide +kernel
theorem dX12_keep_171 : decode cX12_keep 171 = .ok (.istore_n 3, 1) := by decide +kernel
theorem dX12_keep_172 : decode cX12_keep 172 = .ok (.iload_n 3, 1) := by decide +kernel
theorem dX12_keep_173 : decode cX12_keep 173 = .ok (.bipush 52, 2) := by decide +kernel
theorem dX12_keep_175 : decode cX12_keep 175 = .ok (.if_icmp .ge 34, 3) := by decide +kernel
theorem dX12_keep_178 : decode cX12_keep 178 = .ok (.aload_n 0, 1) := by decide +kernel
theorem dX12_keep_179 : decode cX12_keep 179 = .ok (.getfield 33, 3) := by decide +kernel
theorem dX12_keep_182 : decode cX12_keep 182 = .ok (.bipush 52, 2) := by decide +kernel
theorem dX12_keep_184 : decode cX12_keep 184 = .ok (.aload_n 0, 1) := by decide +kernel
theorem dX12_keep_185 : decode cX12_keep 185 = .ok (.getfield 152, 3) := by decide +kernel
theorem dX12_keep_188 : decode cX12_keep 188 = .ok (.imul, 1) := by decide +kernel
theorem dX12_keep_189 : decode cX12_keep 189 = .ok (.iload_n 3, 1) := by decide +kernel
theorem dX12_keep_190 : decode cX12_keep 190 = .ok (.iadd, 1) := by decide +kernel
theorem dX12_keep_191 : decode cX12_keep 191 = .ok (.aload_n 0, 1) := by decide +kernel
theorem dX12_keep_192 : decode cX12_keep 192 = .ok (.getfield 17, 3) := by decide +kernel
theorem dX12_keep_195 : decode cX12_keep 195 = .ok (.bipush 52, 2) := by decide +kernel
theorem dX12_keep_197 : decode cX12_keep 197 = .ok (.iload_n 1, 1) := by decide +kernel
theorem dX12_keep_198 : decode cX12_keep 198 = .ok (.imul, 1) := by decide +kernel
theorem dX12_keep_199 : decode cX12_keep 199 = .ok (.iload_n 3, 1) := by decide +kernel
theorem dX12_keep_200 : decode cX12_keep 200 = .ok (.iadd, 1) := by decide +kernel
theorem dX12_keep_201 : decode cX12_keep 201 = .ok (.iaload, 1) := by decide +kernel
theorem dX12_keep_202 : decode cX12_keep 202 = .ok (.iastore, 1) := by decide +kernel
theorem dX12_keep_203 : decode cX12_keep 203 = .ok (.iinc 3 1, 3) := by decide +kernel
theorem dX12_keep_206 : decode cX12_keep 206 = .ok (.goto (-34), 3) := by decide +kernel
theorem dX12_keep_209 : decode cX12_keep 209 = .ok (.iconst 0, 1) := by decide +kernel
theorem dX12_keep_210 : decode cX12_keep 210 = .ok (.istore_n 3, 1) := by decide +kernel
theorem dX12_keep_211 : decode cX12_keep 211 = .ok (.iload_n 3, 1) := by decide +kernel
theorem dX12_keep_212 : decode cX12_keep 212 = .ok (.iload_n 1, 1) := by decide +kernel
theorem dX12_keep_213 : decode cX12_keep 213 = .ok (.if_icmp .ge 28, 3) := by decide +kernel
theorem dX12_keep_216 : decode cX12_keep 216 = .ok (.aload_n 0, 1) := by decide +kernel
theorem dX12_keep_217 : decode cX12_keep 217 = .ok (.getfield 36, 3) := by decide +kernel
theorem dX12_keep_220 : decode cX12_keep 220 = .ok (.iconst 4, 1) := by decide +kernel
theorem dX12_keep_221 : decode cX12_keep 221 = .ok (.aload_n 0, 1) := by decide +kernel
theorem dX12_keep_222 : decode cX12_keep 222 = .ok (.getfield 152, 3) := by decide +kernel
theorem dX12_keep_225 : decode cX12_keep 225 = .ok (.imul, 1) := by decide +kernel
theorem dX12_keep_226 : decode cX12_keep 226 = .ok (.iload_n 3, 1) := by decide +kernel
theorem dX12_keep_227 : decode cX12_keep 227 = .ok (.iadd, 1) := by decide +kernel
theorem dX12_keep_228 : decode cX12_keep 228 = .ok (.aload_n 0, 1) := by decide +kernel
theorem dX12_keep_229 : decode cX12_keep 229 = .ok (.getfield 20, 3) := by decide +kernel
theorem dX12_keep_232 : decode cX12_keep 232 = .ok (.iload_n 3, 1) := by decide +kernel
theorem dX12_keep_233 : decode cX12_keep 233 = .ok (.iaload, 1) := by decide +kernel
theorem dX12_keep_234 : decode cX12_keep 234 = .ok (.iastore, 1) := by decide +kernel
theorem dX12_keep_235 : decode cX12_keep 235 = .ok (.iinc 3 1, 3) := by decide +kernel
theorem dX12_keep_238 : decode cX12_keep 238 = .ok (.goto (-27), 3) := by decide +kernel
theorem dX12_keep_241 : decode cX12_keep 241 = .ok (.aload_n 0, 1) := by decide +kernel
theorem dX12_keep_242 : decode cX12_keep 242 = .ok (.dup, 1) := by decide +kernel
theorem dX12_keep_243 : decode cX12_keep 243 = .ok (.getfield 152, 3) := by decide +kernel
theorem dX12_keep_246 : decode cX12_keep 246 = .ok (.iconst 1, 1) := by decide +kernel
theorem dX12_keep_247 : decode cX12_keep 247 = .ok (.iadd, 1) := by decide +kernel
theorem dX12_keep_248 : decode cX12_keep 248 = .ok (.putfield 152, 3) := by decide +kernel
theorem dX12_keep_251 : decode cX12_keep 251 = .ok (.return_, 1) := by decide +kernel
theorem dX12_findResults_0 : decode cX12_findResults 0 = .ok (.aload_n 0, 1) := by decide +kernel
theorem dX12_findResults_1 : decode cX12_findResults 1 = .ok (.iload_n 1, 1) := by decide +kernel
theorem dX12_findResults_2 : decode cX12_findResults 2 = .ok (.iload_n 2, 1) := by decide +kernel
theorem dX12_findResults_3 : decode cX12_findResults 3 = .ok (.invokevirtual 220, 3) := by decide +kernel
theorem dX12_findResults_6 : decode cX12_findResults 6 = .ok (.aload_n 0, 1) := by decide +kernel
theorem dX12_findResults_7 : decode cX12_findResults 7 = .ok (.iconst 0, 1) := by decide +kernel
theorem dX12_findResults_8 : decode cX12_findResults 8 = .ok (.putfield 152, 3) := by decide +kernel
theorem dX12_findResults_11 : decode cX12_findResults 11 = .ok (.aload_n 0, 1) := by decide +kernel
theorem dX12_findResults_12 : decode cX12_findResults 12 = .ok (.aload_n 0, 1) := by decide +kernel
theorem dX12_findResults_13 : decode cX12_findResults 13 = .ok (.getfield 185, 3) := by decide +kernel
theorem dX12_findResults_16 : decode cX12_findResults 16 = .ok (.putfield 224, 3) := by decide +kernel
theorem dX12_findResults_19 : decode cX12_findResults 19 = .ok (.aload_n 0, 1) := by decide +kernel
theorem dX12_findResults_20 : decode cX12_findResults 20 = .ok (.iconst 1, 1) := by decide +kernel
theorem dX12_findResults_21 : decode cX12_findResults 21 = .ok (.invokevirtual 210, 3) := by decide +kernel
theorem dX12_findResults_24 : decode cX12_findResults 24 = .ok (.pop, 1) := by decide +kernel
theorem dX12_findResults_25 : decode cX12_findResults 25 = .ok (.return_, 1) := by decide +kernel
theorem dX12_mayPlay_0 : decode cX12_mayPlay 0 = .ok (.aload_n 0, 1) := by decide +kernel
theorem dX12_mayPlay_1 : decode cX12_mayPlay 1 = .ok (.getfield 227, 3) := by decide +kernel
theorem dX12_mayPlay_4 : decode cX12_mayPlay 4 = .ok (.ifCond .eq 52, 3) := by decide +kernel
theorem dX12_mayPlay_7 : decode cX12_mayPlay 7 = .ok (.aload_n 0, 1) := by decide +kernel
theorem dX12_mayPlay_8 : decode cX12_mayPlay 8 = .ok (.getfield 227, 3) := by decide +kernel
theorem dX12_mayPlay_11 : decode cX12_mayPlay 11 = .ok (.bipush 6, 2) := by decide +kernel
theorem dX12_mayPlay_13 : decode cX12_mayPlay 13 = .ok (.if_icmp .eq 43, 3) := by decide +kernel
theorem dX12_mayPlay_16 : decode cX12_mayPlay 16 = .ok (.aload_n 0, 1) := by decide +kernel
theorem dX12_mayPlay_17 : decode cX12_mayPlay 17 = .ok (.getfield 227, 3) := by decide +kernel
theorem dX12_mayPlay_20 : decode cX12_mayPlay 20 = .ok (.iconst 3, 1) := by decide +kernel
theorem dX12_mayPlay_21 : decode cX12_mayPlay 21 = .ok (.if_icmp .ne 39, 3) := by decide +kernel
theorem dX12_mayPlay_24 : decode cX12_mayPlay 24 = .ok (.iload_n 1, 1) := by decide +kernel
theorem dX12_mayPlay_25 : decode cX12_mayPlay 25 = .ok (.aload_n 0, 1) := by decide +kernel
theorem dX12_mayPlay_26 : decode cX12_mayPlay 26 = .ok (.getfield 230, 3) := by decide +kernel
theorem dX12_mayPlay_29 : decode cX12_mayPlay 29 = .ok (.if_icmp .ne 11, 3) := by decide +kernel
theorem dX12_mayPlay_32 : decode cX12_mayPlay 32 = .ok (.iload_n 2, 1) := by decide +kernel
theorem dX12_mayPlay_33 : decode cX12_mayPlay 33 = .ok (.aload_n 0, 1) := by decide +kernel
theorem dX12_mayPlay_34 : decode cX12_mayPlay 34 = .ok (.getfield 233, 3) := by decide +kernel
theorem dX12_mayPlay_37 : decode cX12_mayPlay 37 = .ok (.if_icmp .eq 19, 3) := by decide +kernel
theorem dX12_mayPlay_40 : decode cX12_mayPlay 40 = .ok (.iload_n 1, 1) := by decide +kernel
theorem dX12_mayPlay_41 : decode cX12_mayPlay 41 = .ok (.aload_n 0, 1) := by decide +kernel
theorem dX12_mayPlay_42 : decode cX12_mayPlay 42 = .ok (.getfield 233, 3) := by decide +kernel
theorem dX12_mayPlay_45 : decode cX12_mayPlay 45 = .ok (.if_icmp .ne 15, 3) := by decide +kernel
theorem dX12_mayPlay_48 : decode cX12_mayPlay 48 = .ok (.iload_n 2, 1) := by decide +kernel
theorem dX12_mayPlay_49 : decode cX12_mayPlay 49 = .ok (.aload_n 0, 1) := by decide +kernel
theorem dX12_mayPlay_50 : decode cX12_mayPlay 50 = .ok (.getfield 230, 3) := by decide +kernel
theorem dX12_mayPlay_53 : decode cX12_mayPlay 53 = .ok (.if_icmp .ne 7, 3) := by decide +kernel
theorem dX12_mayPlay_56 : decode cX12_mayPlay 56 = .ok (.iconst 1, 1) := by decide +kernel
theorem dX12_mayPlay_57 : decode cX12_mayPlay 57 = .ok (.goto 4, 3) := by decide +kernel
theorem dX12_mayPlay_60 : decode cX12_mayPlay 60 = .ok (.iconst 0, 1) := by decide +kernel
theorem dX12_mayPlay_61 : decode cX12_mayPlay 61 = .ok (.ireturn, 1) := by decide +kernel
theorem dX12_plays_0 : decode cX12_plays 0 = .ok (.aload_n 0, 1) := by decide +kernel
theorem dX12_plays_1 : decode cX12_plays 1 = .ok (.iconst 0, 1) := by decide +kernel
theorem dX12_plays_2 : decode cX12_plays 2 = .ok (.putfield 1, 3) := by decide +kernel
theorem dX12_plays_5 : decode cX12_plays 5 = .ok (.aload_n 0, 1) := by decide +kernel
theorem dX12_plays_6 : decode cX12_plays 6 = .ok (.iload_n 1, 1) := by decide +kernel
theorem dX12_plays_7 : decode cX12_plays 7 = .ok (.invokestatic 236, 3) := by decide +kernel
theorem dX12_plays_10 : decode cX12_plays 10 = .ok (.ifCond .eq 14, 3) := by decide +kernel
theorem dX12_plays_13 : decode cX12_plays 13 = .ok (.iload_n 2, 1) := by decide +kernel
theorem dX12_plays_14 : decode cX12_plays 14 = .ok (.invokestatic 236, 3) := by decide +kernel
theorem dX12_plays_17 : decode cX12_plays 17 = .ok (.ifCond .eq 7, 3) := by decide +kernel
theorem dX12_plays_20 : decode cX12_plays 20 = .ok (.iconst 1, 1) := by decide +kernel
theorem dX12_plays_21 : decode cX12_plays 21 = .ok (.goto 4, 3) := by decide +kernel
theorem dX12_plays_24 : decode cX12_plays 24 = .ok (.iconst 0, 1) := by decide +kernel
theorem dX12_plays_25 : decode cX12_plays 25 = .ok (.iconst 1, 1) := by decide +kernel
theorem dX12_plays_26 : decode cX12_plays 26 = .ok (.invokevirtual 155, 3) := by decide +kernel
theorem dX12_plays_29 : decode cX12_plays 29 = .ok (.ifCond .eq 17, 3) := by decide +kernel
theorem dX12_plays_32 : decode cX12_plays 32 = .ok (.aload_n 0, 1) := by decide +kernel
theorem dX12_plays_33 : decode cX12_plays 33 = .ok (.aload_n 0, 1) := by decide +kernel
theorem dX12_plays_34 : decode cX12_plays 34 = .ok (.iload_n 1, 1) := by decide +kernel
theorem dX12_plays_35 : decode cX12_plays 35 = .ok (.iload_n 2, 1) := by decide +kernel
theorem dX12_plays_36 : decode cX12_plays 36 = .ok (.invokevirtual 240, 3) := by decide +kernel
theorem dX12_plays_39 : decode cX12_plays 39 = .ok (.iconst 2, 1) := by decide +kernel
theorem dX12_plays_40 : decode cX12_plays 40 = .ok (.invokevirtual 155, 3) := by decide +kernel
theorem dX12_plays_43 : decode cX12_plays 43 = .ok (.ifCond .ne 5, 3) := by decide +kernel
theorem dX12_plays_46 : decode cX12_plays 46 = .ok (.iconst 0, 1) := by decide +kernel
theorem dX12_plays_47 : decode cX12_plays 47 = .ok (.ireturn, 1) := by decide +kernel
theorem dX12_plays_48 : decode cX12_plays 48 = .ok (.aload_n 0, 1) := by decide +kernel
theorem dX12_plays_49 : decode cX12_plays 49 = .ok (.iload_n 1, 1) := by decide +kernel
theorem dX12_plays_50 : decode cX12_plays 50 = .ok (.iload_n 2, 1) := by decide +kernel
theorem dX12_plays_51 : decode cX12_plays 51 = .ok (.invokevirtual 243, 3) := by decide +kernel
theorem dX12_plays_54 : decode cX12_plays 54 = .ok (.aload_n 0, 1) := by decide +kernel
theorem dX12_plays_55 : decode cX12_plays 55 = .ok (.getfield 152, 3) := by decide +kernel
theorem dX12_plays_58 : decode cX12_plays 58 = .ok (.ireturn, 1) := by decide +kernel
theorem dX12_isResult_0 : decode cX12_isResult 0 = .ok (.iload_n 1, 1) := by decide +kernel
theorem dX12_isResult_1 : decode cX12_isResult 1 = .ok (.ifCond .lt 15, 3) := by decide +kernel
theorem dX12_isResult_4 : decode cX12_isResult 4 = .ok (.iload_n 1, 1) := by decide +kernel
theorem dX12_isResult_5 : decode cX12_isResult 5 = .ok (.aload_n 0, 1) := by decide +kernel
theorem dX12_isResult_6 : decode cX12_isResult 6 = .ok (.getfield 152, 3) := by decide +kernel
theorem dX12_isResult_9 : decode cX12_isResult 9 = .ok (.if_icmp .ge 7, 3) := by decide +kernel
theorem dX12_isResult_12 : decode cX12_isResult 12 = .ok (.iconst 1, 1) := by decide +kernel
theorem dX12_isResult_13 : decode cX12_isResult 13 = .ok (.goto 4, 3) := by decide +kernel
theorem dX12_isResult_16 : decode cX12_isResult 16 = .ok (.iconst 0, 1) := by decide +kernel
theorem dX12_isResult_17 : decode cX12_isResult 17 = .ok (.ireturn, 1) := by decide +kernel
theorem dX12_result_0 : decode cX12_result 0 = .ok (.aload_n 0, 1) := by decide +kernel
theorem dX12_result_1 : decode cX12_result 1 = .ok (.iconst 0, 1) := by decide +kernel
theorem dX12_result_2 : decode cX12_result 2 = .ok (.putfield 1, 3) := by decide +kernel
theorem dX12_result_5 : decode cX12_result 5 = .ok (.aload_n 0, 1) := by decide +kernel
theorem dX12_result_6 : decode cX12_result 6 = .ok (.aload_n 0, 1) := by decide +kernel
theorem dX12_result_7 : decode cX12_result 7 = .ok (.iload_n 1, 1) := by decide +kernel
theorem dX12_result_8 : decode cX12_result 8 = .ok (.invokevirtual 246, 3) := by decide +kernel
theorem dX12_result_11 : decode cX12_result 11 = .ok (.iconst 1, 1) := by decide +kernel
theorem dX12_result_12 : decode cX12_result 12 = .ok (.invokevirtual 155, 3) := by decide +kernel
theorem dX12_result_15 : decode cX12_result 15 = .ok (.ifCond .eq 35, 3) := by decide +kernel
