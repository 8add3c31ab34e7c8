theorem dX12_learn_124 : decode cX12_learn 124 = .ok (.iload 4, 2) := by decide +kernel
theorem dX12_learn_126 : decode cX12_learn 126 = .ok (.iadd, 1) := by decide +kernel
theorem dX12_learn_127 : decode cX12_learn 127 = .ok (.iload_n 3, 1) := by decide +kernel
theorem dX12_learn_128 : decode cX12_learn 128 = .ok (.iadd, 1) := by decide +kernel
theorem dX12_learn_129 : decode cX12_learn 129 = .ok (.bipush 15, 2) := by decide +kernel
theorem dX12_learn_131 : decode cX12_learn 131 = .ok (.if_icmp .gt 155, 3) := by decide +kernel
theorem dX12_learn_134 : decode cX12_learn 134 = .ok (.bipush 6, 2) := by decide +kernel
theorem dX12_learn_136 : decode cX12_learn 136 = .ok (.iload_n 3, 1) := by decide +kernel
theorem dX12_learn_137 : decode cX12_learn 137 = .ok (.imul, 1) := by decide +kernel
theorem dX12_learn_138 : decode cX12_learn 138 = .ok (.iconst 5, 1) := by decide +kernel
theorem dX12_learn_139 : decode cX12_learn 139 = .ok (.iload 4, 2) := by decide +kernel
theorem dX12_learn_141 : decode cX12_learn 141 = .ok (.imul, 1) := by decide +kernel
theorem dX12_learn_142 : decode cX12_learn 142 = .ok (.iadd, 1) := by decide +kernel
theorem dX12_learn_143 : decode cX12_learn 143 = .ok (.iconst 4, 1) := by decide +kernel
theorem dX12_learn_144 : decode cX12_learn 144 = .ok (.iload 5, 2) := by decide +kernel
theorem dX12_learn_146 : decode cX12_learn 146 = .ok (.imul, 1) := by decide +kernel
theorem dX12_learn_147 : decode cX12_learn 147 = .ok (.iadd, 1) := by decide +kernel
theorem dX12_learn_148 : decode cX12_learn 148 = .ok (.iconst 3, 1) := by decide +kernel
theorem dX12_learn_149 : decode cX12_learn 149 = .ok (.iload 6, 2) := by decide +kernel
theorem dX12_learn_151 : decode cX12_learn 151 = .ok (.imul, 1) := by decide +kernel
theorem dX12_learn_152 : decode cX12_learn 152 = .ok (.iadd, 1) := by decide +kernel
theorem dX12_learn_153 : decode cX12_learn 153 = .ok (.iload_n 1, 1) := by decide +kernel
theorem dX12_learn_154 : decode cX12_learn 154 = .ok (.if_icmp .gt 132, 3) := by decide +kernel
theorem dX12_learn_157 : decode cX12_learn 157 = .ok (.iload_n 1, 1) := by decide +kernel
theorem dX12_learn_158 : decode cX12_learn 158 = .ok (.bipush 6, 2) := by decide +kernel
theorem dX12_learn_160 : decode cX12_learn 160 = .ok (.iload_n 3, 1) := by decide +kernel
theorem dX12_learn_161 : decode cX12_learn 161 = .ok (.imul, 1) := by decide +kernel
theorem dX12_learn_162 : decode cX12_learn 162 = .ok (.isub, 1) := by decide +kernel
theorem dX12_learn_163 : decode cX12_learn 163 = .ok (.iconst 5, 1) := by decide +kernel
theorem dX12_learn_164 : decode cX12_learn 164 = .ok (.iload 4, 2) := by decide +kernel
theorem dX12_learn_166 : decode cX12_learn 166 = .ok (.imul, 1) := by decide +kernel
theorem dX12_learn_167 : decode cX12_learn 167 = .ok (.isub, 1) := by decide +kernel
theorem dX12_learn_168 : decode cX12_learn 168 = .ok (.iconst 4, 1) := by decide +kernel
theorem dX12_learn_169 : decode cX12_learn 169 = .ok (.iload 5, 2) := by decide +kernel
theorem dX12_learn_171 : decode cX12_learn 171 = .ok (.imul, 1) := by decide +kernel
theorem dX12_learn_172 : decode cX12_learn 172 = .ok (.isub, 1) := by decide +kernel
theorem dX12_learn_173 : decode cX12_learn 173 = .ok (.iconst 3, 1) := by decide +kernel
theorem dX12_learn_174 : decode cX12_learn 174 = .ok (.iload 6, 2) := by decide +kernel
theorem dX12_learn_176 : decode cX12_learn 176 = .ok (.imul, 1) := by decide +kernel
theorem dX12_learn_177 : decode cX12_learn 177 = .ok (.isub, 1) := by decide +kernel
theorem dX12_learn_178 : decode cX12_learn 178 = .ok (.istore 7, 2) := by decide +kernel
theorem dX12_learn_180 : decode cX12_learn 180 = .ok (.bipush 15, 2) := by decide +kernel
theorem dX12_learn_182 : decode cX12_learn 182 = .ok (.iload 6, 2) := by decide +kernel
theorem dX12_learn_184 : decode cX12_learn 184 = .ok (.isub, 1) := by decide +kernel
theorem dX12_learn_185 : decode cX12_learn 185 = .ok (.iload 5, 2) := by decide +kernel
theorem dX12_learn_187 : decode cX12_learn 187 = .ok (.isub, 1) := by decide +kernel
theorem dX12_learn_188 : decode cX12_learn 188 = .ok (.iload 4, 2) := by decide +kernel
theorem dX12_learn_190 : decode cX12_learn 190 = .ok (.isub, 1) := by decide +kernel
theorem dX12_learn_191 : decode cX12_learn 191 = .ok (.iload_n 3, 1) := by decide +kernel
theorem dX12_learn_192 : decode cX12_learn 192 = .ok (.isub, 1) := by decide +kernel
theorem dX12_learn_193 : decode cX12_learn 193 = .ok (.istore 8, 2) := by decide +kernel
theorem dX12_learn_195 : decode cX12_learn 195 = .ok (.iconst 0, 1) := by decide +kernel
theorem dX12_learn_196 : decode cX12_learn 196 = .ok (.istore 9, 2) := by decide +kernel
theorem dX12_learn_198 : decode cX12_learn 198 = .ok (.iload 9, 2) := by decide +kernel
theorem dX12_learn_200 : decode cX12_learn 200 = .ok (.iload 8, 2) := by decide +kernel
theorem dX12_learn_202 : decode cX12_learn 202 = .ok (.if_icmp .gt 78, 3) := by decide +kernel
theorem dX12_learn_205 : decode cX12_learn 205 = .ok (.iconst 2, 1) := by decide +kernel
theorem dX12_learn_206 : decode cX12_learn 206 = .ok (.iload 9, 2) := by decide +kernel
theorem dX12_learn_208 : decode cX12_learn 208 = .ok (.imul, 1) := by decide +kernel
theorem dX12_learn_209 : decode cX12_learn 209 = .ok (.iload 7, 2) := by decide +kernel
theorem dX12_learn_211 : decode cX12_learn 211 = .ok (.if_icmp .gt 69, 3) := by decide +kernel
theorem dX12_learn_214 : decode cX12_learn 214 = .ok (.iload 9, 2) := by decide +kernel
theorem dX12_learn_216 : decode cX12_learn 216 = .ok (.iload 7, 2) := by decide +kernel
theorem dX12_learn_218 : decode cX12_learn 218 = .ok (.iadd, 1) := by decide +kernel
theorem dX12_learn_219 : decode cX12_learn 219 = .ok (.iconst 2, 1) := by decide +kernel
theorem dX12_learn_220 : decode cX12_learn 220 = .ok (.iload 9, 2) := by decide +kernel
theorem dX12_learn_222 : decode cX12_learn 222 = .ok (.imul, 1) := by decide +kernel
theorem dX12_learn_223 : decode cX12_learn 223 = .ok (.isub, 1) := by decide +kernel
theorem dX12_learn_224 : decode cX12_learn 224 = .ok (.iload 8, 2) := by decide +kernel
theorem dX12_learn_226 : decode cX12_learn 226 = .ok (.if_icmp .le 6, 3) := by decide +kernel
theorem dX12_learn_229 : decode cX12_learn 229 = .ok (.goto 45, 3) := by decide +kernel
theorem dX12_learn_232 : decode cX12_learn 232 = .ok (.aload_n 0, 1) := by decide +kernel
theorem dX12_learn_233 : decode cX12_learn 233 = .ok (.iload_n 3, 1) := by decide +kernel
theorem dX12_learn_234 : decode cX12_learn 234 = .ok (.bipush 20, 2) := by decide +kernel
theorem dX12_learn_236 : decode cX12_learn 236 = .ok (.ishl, 1) := by decide +kernel
theorem dX12_learn_237 : decode cX12_learn 237 = .ok (.iload 4, 2) := by decide +kernel
theorem dX12_learn_239 : decode cX12_learn 239 = .ok (.bipush 16, 2) := by decide +kernel
theorem dX12_learn_241 : decode cX12_learn 241 = .ok (.ishl, 1) := by decide +kernel
theorem dX12_learn_242 : decode cX12_learn 242 = .ok (.ior, 1) := by decide +kernel
theorem dX12_learn_243 : decode cX12_learn 243 = .ok (.iload 5, 2) := by decide +kernel
theorem dX12_learn_245 : decode cX12_learn 245 = .ok (.bipush 12, 2) := by decide +kernel
theorem dX12_learn_247 : decode cX12_learn 247 = .ok (.ishl, 1) := by decide +kernel
theorem dX12_learn_248 : decode cX12_learn 248 = .ok (.ior, 1) := by decide +kernel
theorem dX12_learn_249 : decode cX12_learn 249 = .ok (.iload 6, 2) := by decide +kernel
theorem dX12_learn_251 : decode cX12_learn 251 = .ok (.bipush 8, 2) := by decide +kernel
theorem dX12_learn_253 : decode cX12_learn 253 = .ok (.ishl, 1) := by decide +kernel
theorem dX12_learn_254 : decode cX12_learn 254 = .ok (.ior, 1) := by decide +kernel
theorem dX12_learn_255 : decode cX12_learn 255 = .ok (.iload 9, 2) := by decide +kernel
theorem dX12_learn_257 : decode cX12_learn 257 = .ok (.iconst 4, 1) := by decide +kernel
theorem dX12_learn_258 : decode cX12_learn 258 = .ok (.ishl, 1) := by decide +kernel
theorem dX12_learn_259 : decode cX12_learn 259 = .ok (.ior, 1) := by decide +kernel
theorem dX12_learn_260 : decode cX12_learn 260 = .ok (.iload 7, 2) := by decide +kernel
theorem dX12_learn_262 : decode cX12_learn 262 = .ok (.iconst 2, 1) := by decide +kernel
theorem dX12_learn_263 : decode cX12_learn 263 = .ok (.iload 9, 2) := by decide +kernel
theorem dX12_learn_265 : decode cX12_learn 265 = .ok (.imul, 1) := by decide +kernel
theorem dX12_learn_266 : decode cX12_learn 266 = .ok (.isub, 1) := by decide +kernel
theorem dX12_learn_267 : decode cX12_learn 267 = .ok (.ior, 1) := by decide +kernel
theorem dX12_learn_268 : decode cX12_learn 268 = .ok (.invokevirtual 372, 3) := by decide +kernel
theorem dX12_learn_271 : decode cX12_learn 271 = .ok (.iinc 2 1, 3) := by decide +kernel
theorem dX12_learn_274 : decode cX12_learn 274 = .ok (.iinc 9 1, 3) := by decide +kernel
theorem dX12_learn_277 : decode cX12_learn 277 = .ok (.goto (-79), 3) := by decide +kernel
theorem dX12_learn_280 : decode cX12_learn 280 = .ok (.iinc 6 1, 3) := by decide +kernel
theorem dX12_learn_283 : decode cX12_learn 283 = .ok (.goto (-164), 3) := by decide +kernel
theorem dX12_learn_286 : decode cX12_learn 286 = .ok (.iinc 5 1, 3) := by decide +kernel
theorem dX12_learn_289 : decode cX12_learn 289 = .ok (.goto (-203), 3) := by decide +kernel
theorem dX12_learn_292 : decode cX12_learn 292 = .ok (.iinc 4 1, 3) := by decide +kernel
theorem dX12_learn_295 : decode cX12_learn 295 = .ok (.goto (-234), 3) := by decide +kernel
theorem dX12_learn_298 : decode cX12_learn 298 = .ok (.iinc 3 1, 3) := by decide +kernel
theorem dX12_learn_301 : decode cX12_learn 301 = .ok (.goto (-257), 3) := by decide +kernel
theorem dX12_learn_304 : decode cX12_learn 304 = .ok (.aload_n 0, 1) := by decide +kernel
theorem dX12_learn_305 : decode cX12_learn 305 = .ok (.iload_n 1, 1) := by decide +kernel
theorem dX12_learn_306 : decode cX12_learn 306 = .ok (.putfield 173, 3) := by decide +kernel
theorem dX12_learn_309 : decode cX12_learn 309 = .ok (.iload_n 2, 1) := by decide +kernel
theorem dX12_learn_310 : decode cX12_learn 310 = .ok (.ireturn, 1) := by decide +kernel
theorem dX12_work_0 : decode cX12_work 0 = .ok (.aload_n 0, 1) := by decide +kernel
theorem dX12_work_1 : decode cX12_work 1 = .ok (.iload_n 1, 1) := by decide +kernel
theorem dX12_work_2 : decode cX12_work 2 = .ok (.invokevirtual 375, 3) := by decide +kernel
theorem dX12_work_5 : decode cX12_work 5 = .ok (.istore_n 2, 1) := by decide +kernel
theorem dX12_work_6 : decode cX12_work 6 = .ok (.aload_n 0, 1) := by decide +kernel
theorem dX12_work_7 : decode cX12_work 7 = .ok (.getfield 88, 3) := by decide +kernel
theorem dX12_work_10 : decode cX12_work 10 = .ok (.iload_n 2, 1) := by decide +kernel
theorem dX12_work_11 : decode cX12_work 11 = .ok (.iload_n 1, 1) := by decide +kernel
theorem dX12_work_12 : decode cX12_work 12 = .ok (.iastore, 1) := by decide +kernel
theorem dX12_work_13 : decode cX12_work 13 = .ok (.iconst 0, 1) := by decide +kernel
theorem dX12_work_14 : decode cX12_work 14 = .ok (.istore_n 3, 1) := by decide +kernel
theorem dX12_work_15 : decode cX12_work 15 = .ok (.iload_n 3, 1) := by decide +kernel
theorem dX12_work_16 : decode cX12_work 16 = .ok (.bipush 8, 2) := by decide +kernel
theorem dX12_work_18 : decode cX12_work 18 = .ok (.if_icmp .ge 16, 3) := by decide +kernel
theorem dX12_work_21 : decode cX12_work 21 = .ok (.aload_n 0, 1) := by decide +kernel
theorem dX12_work_22 : decode cX12_work 22 = .ok (.getfield 97, 3) := by decide +kernel
theorem dX12_work_25 : decode cX12_work 25 = .ok (.iload_n 3, 1) := by decide +kernel
theorem dX12_work_26 : decode cX12_work 26 = .ok (.iconst 0, 1) := by decide +kernel
theorem dX12_work_27 : decode cX12_work 27 = .ok (.iastore, 1) := by decide +kernel
theorem dX12_work_28 : decode cX12_work 28 = .ok (.iinc 3 1, 3) := by decide +kernel
theorem dX12_work_31 : decode cX12_work 31 = .ok (.goto (-16), 3) := by decide +kernel
theorem dX12_work_34 : decode cX12_work 34 = .ok (.iconst 1, 1) := by decide +kernel
theorem dX12_work_35 : decode cX12_work 35 = .ok (.istore_n 3, 1) := by decide +kernel
theorem dX12_work_36 : decode cX12_work 36 = .ok (.iload_n 3, 1) := by decide +kernel
theorem dX12_work_37 : decode cX12_work 37 = .ok (.bipush 6, 2) := by decide +kernel
theorem dX12_work_39 : decode cX12_work 39 = .ok (.if_icmp .gt 155, 3) := by decide +kernel
theorem dX12_work_42 : decode cX12_work 42 = .ok (.iconst 1, 1) := by decide +kernel
theorem dX12_work_43 : decode cX12_work 43 = .ok (.istore 4, 2) := by decide +kernel
theorem dX12_work_45 : decode cX12_work 45 = .ok (.iload 4, 2) := by decide +kernel
theorem dX12_work_47 : decode cX12_work 47 = .ok (.iload_n 3, 1) := by decide +kernel
theorem dX12_work_48 : decode cX12_work 48 = .ok (.if_icmp .gt 140, 3) := by decide +kernel
theorem dX12_work_51 : decode cX12_work 51 = .ok (.aload_n 0, 1) := by decide +kernel
theorem dX12_work_52 : decode cX12_work 52 = .ok (.iload_n 1, 1) := by decide +kernel
theorem dX12_work_53 : decode cX12_work 53 = .ok (.iload_n 3, 1) := by decide +kernel
theorem dX12_work_54 : decode cX12_work 54 = .ok (.iload 4, 2) := by decide +kernel
theorem dX12_work_56 : decode cX12_work 56 = .ok (.invokevirtual 378, 3) := by decide +kernel
theorem dX12_work_59 : decode cX12_work 59 = .ok (.istore 5, 2) := by decide +kernel
theorem dX12_work_61 : decode cX12_work 61 = .ok (.iconst (-1), 1) := by decide +kernel
theorem dX12_work_62 : decode cX12_work 62 = .ok (.istore 6, 2) := by decide +kernel
theorem dX12_work_64 : decode cX12_work 64 = .ok (.iload 5, 2) := by decide +kernel
theorem dX12_work_66 : decode cX12_work 66 = .ok (.istore 7, 2) := by decide +kernel
theorem dX12_work_68 : decode cX12_work 68 = .ok (.iload 7, 2) := by decide +kernel
theorem dX12_work_70 : decode cX12_work 70 = .ok (.aload_n 0, 1) := by decide +kernel
theorem dX12_work_71 : decode cX12_work 71 = .ok (.getfield 359, 3) := by decide +kernel
theorem dX12_work_74 : decode cX12_work 74 = .ok (.if_icmp .ge 73, 3) := by decide +kernel
theorem dX12_work_77 : decode cX12_work 77 = .ok (.aload_n 0, 1) := by decide +kernel
theorem dX12_work_78 : decode cX12_work 78 = .ok (.aload_n 0, 1) := by decide +kernel
theorem dX12_work_79 : decode cX12_work 79 = .ok (.getfield 100, 3) := by decide +kernel
theorem dX12_work_82 : decode cX12_work 82 = .ok (.iload 7, 2) := by decide +kernel
theorem dX12_work_84 : decode cX12_work 84 = .ok (.iaload, 1) := by decide +kernel
theorem dX12_work_85 : decode cX12_work 85 = .ok (.invokevirtual 375, 3) := by decide +kernel
theorem dX12_work_88 : decode cX12_work 88 = .ok (.istore 8, 2) := by decide +kernel
theorem dX12_work_90 : decode cX12_work 90 = .ok (.iload 6, 2) := by decide +kernel
theorem dX12_work_92 : decode cX12_work 92 = .ok (.iconst (-1), 1) := by decide +kernel
theorem dX12_work_93 : decode cX12_work 93 = .ok (.if_icmp .ne 7, 3) := by decide +kernel
theorem dX12_work_96 : decode cX12_work 96 = .ok (.iconst (-1), 1) := by decide +kernel
theorem dX12_work_97 : decode cX12_work 97 = .ok (.goto 11, 3) := by decide +kernel
theorem dX12_work_100 : decode cX12_work 100 = .ok (.aload_n 0, 1) := by decide +kernel
theorem dX12_work_101 : decode cX12_work 101 = .ok (.iload 8, 2) := by decide +kernel
theorem dX12_work_103 : decode cX12_work 103 = .ok (.iload 6, 2) := by decide +kernel
theorem dX12_work_105 : decode cX12_work 105 = .ok (.invokevirtual 382, 3) := by decide +kernel
theorem dX12_work_108 : decode cX12_work 108 = .ok (.istore 9, 2) := by decide +kernel
theorem dX12_work_110 : decode cX12_work 110 = .ok (.iload 9, 2) := by decide +kernel
theorem dX12_work_112 : decode cX12_work 112 = .ok (.ifCond .lt 25, 3) := by decide +kernel
theorem dX12_work_115 : decode cX12_work 115 = .ok (.iload 9, 2) := by decide +kernel
theorem dX12_work_117 : decode cX12_work 117 = .ok (.ifCond .ne 24, 3) := by decide +kernel
theorem dX12_work_120 : decode cX12_work 120 = .ok (.aload_n 0, 1) := by decide +kernel
theorem dX12_work_121 : decode cX12_work 121 = .ok (.getfield 100, 3) := by decide +kernel
theorem dX12_work_124 : decode cX12_work 124 = .ok (.iload 7, 2) := by decide +kernel
theorem dX12_work_126 : decode cX12_work 126 = .ok (.iaload, 1) := by decide +kernel
theorem dX12_work_127 : decode cX12_work 127 = .ok (.aload_n 0, 1) := by decide +kernel
theorem dX12_work_128 : decode cX12_work 128 = .ok (.getfield 88, 3) := by decide +kernel
theorem dX12_work_131 : decode cX12_work 131 = .ok (.iload 6, 2) := by decide +kernel
theorem dX12_work_133 : decode cX12_work 133 = .ok (.iaload, 1) := by decide +kernel
theorem dX12_work_134 : decode cX12_work 134 = .ok (.if_icmp .le 7, 3) := by decide +kernel
theorem dX12_work_137 : decode cX12_work 137 = .ok (.iload 8, 2) := by decide +kernel
theorem dX12_work_139 : decode cX12_work 139 = .ok (.istore 6, 2) := by decide +kernel
theorem dX12_work_141 : decode cX12_work 141 = .ok (.iinc 7 1, 3) := by decide +kernel
theorem dX12_work_144 : decode cX12_work 144 = .ok (.goto (-76), 3) := by decide +kernel
theorem dX12_work_147 : decode cX12_work 147 = .ok (.aload_n 0, 1) := by decide +kernel
theorem dX12_work_148 : decode cX12_work 148 = .ok (.getfield 84, 3) := by decide +kernel
theorem dX12_work_151 : decode cX12_work 151 = .ok (.bipush 21, 2) := by decide +kernel
theorem dX12_work_153 : decode cX12_work 153 = .ok (.iload_n 2, 1) := by decide +kernel
theorem dX12_work_154 : decode cX12_work 154 = .ok (.imul, 1) := by decide +kernel
theorem dX12_work_155 : decode cX12_work 155 = .ok (.iload_n 3, 1) := by decide +kernel
theorem dX12_work_156 : decode cX12_work 156 = .ok (.iload 4, 2) := by decide +kernel
theorem dX12_work_158 : decode cX12_work 158 = .ok (.invokestatic 385, 3) := by decide +kernel
theorem dX12_work_161 : decode cX12_work 161 = .ok (.iadd, 1) := by decide +kernel
theorem dX12_work_162 : decode cX12_work 162 = .ok (.iload 6, 2) := by decide +kernel
theorem dX12_work_164 : decode cX12_work 164 = .ok (.iastore, 1) := by decide +kernel
theorem dX12_work_165 : decode cX12_work 165 = .ok (.aload_n 0, 1) := by decide +kernel
theorem dX12_work_166 : decode cX12_work 166 = .ok (.iload 6, 2) := by decide +kernel
theorem dX12_work_168 : decode cX12_work 168 = .ok (.iload_n 3, 1) := by decide +kernel
theorem dX12_work_169 : decode cX12_work 169 = .ok (.iload 4, 2) := by decide +kernel
theorem dX12_work_171 : decode cX12_work 171 = .ok (.if_icmp .ne 7, 3) := by decide +kernel
theorem dX12_work_174 : decode cX12_work 174 = .ok (.iconst 1, 1) := by decide +kernel
theorem dX12_work_175 : decode cX12_work 175 = .ok (.goto 4, 3) := by decide +kernel
theorem dX12_work_178 : decode cX12_work 178 = .ok (.iconst 2, 1) := by decide +kernel
theorem dX12_work_179 : decode cX12_work 179 = .ok (.invokevirtual 388, 3) := by decide +kernel
theorem dX12_work_182 : decode cX12_work 182 = .ok (.iinc 4 1, 3) := by decide +kernel
theorem dX12_work_185 : decode cX12_work 185 = .ok (.goto (-140), 3) := by decide +kernel
theorem dX12_work_188 : decode cX12_work 188 = .ok (.iinc 3 1, 3) := by decide +kernel
theorem dX12_work_191 : decode cX12_work 191 = .ok (.goto (-155), 3) := by decide +kernel
theorem dX12_work_194 : decode cX12_work 194 = .ok (.aload_n 0, 1) := by decide +kernel
theorem dX12_work_195 : decode cX12_work 195 = .ok (.getfield 97, 3) := by decide +kernel
theorem dX12_work_198 : decode cX12_work 198 = .ok (.bipush 36, 2) := by decide +kernel
theorem dX12_work_200 : decode cX12_work 200 = .ok (.invokestatic 391, 3) := by decide +kernel
theorem dX12_work_203 : decode cX12_work 203 = .ok (.pop, 1) := by decide +kernel
theorem dX12_work_204 : decode cX12_work 204 = .ok (.lconst 0, 1) := by decide +kernel
theorem dX12_work_205 : decode cX12_work 205 = .ok (.lstore_n 3, 1) := by decide +kernel
theorem dX12_work_206 : decode cX12_work 206 = .ok (.iconst 0, 1) := by decide +kernel
theorem dX12_work_207 : decode cX12_work 207 = .ok (.istore 5, 2) := by decide +kernel
theorem dX12_work_209 : decode cX12_work 209 = .ok (.iload 5, 2) := by decide +kernel
theorem dX12_work_211 : decode cX12_work 211 = .ok (.bipush 8, 2) := by decide +kernel
theorem dX12_work_213 : decode cX12_work 213 = .ok (.if_icmp .ge 52, 3) := by decide +kernel
theorem dX12_work_216 : decode cX12_work 216 = .ok (.lload_n 3, 1) := by decide +kernel
theorem dX12_work_217 : decode cX12_work 217 = .ok (.aload_n 0, 1) := by decide +kernel
theorem dX12_work_218 : decode cX12_work 218 = .ok (.getfield 97, 3) := by decide +kernel
theorem dX12_work_221 : decode cX12_work 221 = .ok (.iload 5, 2) := by decide +kernel
theorem dX12_work_223 : decode cX12_work 223 = .ok (.iaload, 1) := by decide +kernel
theorem dX12_work_224 : decode cX12_work 224 = .ok (.i2l, 1) := by decide +kernel
theorem dX12_work_225 : decode cX12_work 225 = .ok (.aload_n 0, 1) := by decide +kernel
theorem dX12_work_226 : decode cX12_work 226 = .ok (.getfield 94, 3) := by decide +kernel
theorem dX12_work_229 : decode cX12_work 229 = .ok (.iload 5, 2) := by decide +kernel
theorem dX12_work_231 : decode cX12_work 231 = .ok (.iaload, 1) := by decide +kernel
theorem dX12_work_232 : decode cX12_work 232 = .ok (.i2l, 1) := by decide +kernel
theorem dX12_work_233 : decode cX12_work 233 = .ok (.ladd, 1) := by decide +kernel
theorem dX12_work_234 : decode cX12_work 234 = .ok (.ladd, 1) := by decide +kernel
theorem dX12_work_235 : decode cX12_work 235 = .ok (.lstore_n 3, 1) := by decide +kernel
theorem dX12_work_236 : decode cX12_work 236 = .ok (.aload_n 0, 1) := by decide +kernel
theorem dX12_work_237 : decode cX12_work 237 = .ok (.getfield 80, 3) := by decide +kernel
theorem dX12_work_240 : decode cX12_work 240 = .ok (.bipush 8, 2) := by decide +kernel
theorem dX12_work_242 : decode cX12_work 242 = .ok (.iload_n 2, 1) := by decide +kernel
theorem dX12_work_243 : decode cX12_work 243 = .ok (.imul, 1) := by decide +kernel
theorem dX12_work_244 : decode cX12_work 244 = .ok (.iload 5, 2) := by decide +kernel
theorem dX12_work_246 : decode cX12_work 246 = .ok (.iadd, 1) := by decide +kernel
theorem dX12_work_247 : decode cX12_work 247 = .ok (.lload_n 3, 1) := by decide +kernel
theorem dX12_work_248 : decode cX12_work 248 = .ok (.ldc2_w 357, 3) := by decide +kernel
theorem dX12_work_251 : decode cX12_work 251 = .ok (.land, 1) := by decide +kernel
theorem dX12_work_252 : decode cX12_work 252 = .ok (.l2i, 1) := by decide +kernel
theorem dX12_work_253 : decode cX12_work 253 = .ok (.iastore, 1) := by decide +kernel
theorem dX12_work_254 : decode cX12_work 254 = .ok (.lload_n 3, 1) := by decide +kernel
theorem dX12_work_255 : decode cX12_work 255 = .ok (.bipush 28, 2) := by decide +kernel
theorem dX12_work_257 : decode cX12_work 257 = .ok (.lshr, 1) := by decide +kernel
theorem dX12_work_258 : decode cX12_work 258 = .ok (.lstore_n 3, 1) := by decide +kernel
theorem dX12_work_259 : decode cX12_work 259 = .ok (.iinc 5 1, 3) := by decide +kernel
theorem dX12_work_262 : decode cX12_work 262 = .ok (.goto (-53), 3) := by decide +kernel
theorem dX12_work_265 : decode cX12_work 265 = .ok (.return_, 1) := by decide +kernel
theorem dX12_best_0 : decode cX12_best 0 = .ok (.aload_n 0, 1) := by decide +kernel
theorem dX12_best_1 : decode cX12_best 1 = .ok (.iconst 0, 1) := by decide +kernel
theorem dX12_best_2 : decode cX12_best 2 = .ok (.putfield 1, 3) := by decide +kernel
theorem dX12_best_5 : decode cX12_best 5 = .ok (.aload_n 0, 1) := by decide +kernel
theorem dX12_best_6 : decode cX12_best 6 = .ok (.iload_n 1, 1) := by decide +kernel
theorem dX12_best_7 : decode cX12_best 7 = .ok (.invokestatic 395, 3) := by decide +kernel
theorem dX12_best_10 : decode cX12_best 10 = .ok (.ifCond .eq 21, 3) := by decide +kernel
theorem dX12_best_13 : decode cX12_best 13 = .ok (.iload_n 2, 1) := by decide +kernel
theorem dX12_best_14 : decode cX12_best 14 = .ok (.invokestatic 236, 3) := by decide +kernel
theorem dX12_best_17 : decode cX12_best 17 = .ok (.ifCond .eq 14, 3) := by decide +kernel
theorem dX12_best_20 : decode cX12_best 20 = .ok (.iload_n 3, 1) := by decide +kernel
theorem dX12_best_21 : decode cX12_best 21 = .ok (.invokestatic 236, 3) := by decide +kernel
theorem dX12_best_24 : decode cX12_best 24 = .ok (.ifCond .eq 7, 3) := by decide +kernel
theorem dX12_best_27 : decode cX12_best 27 = .ok (.iconst 1, 1) := by decide +kernel
theorem dX12_best_28 : decode cX12_best 28 = .ok (.goto 4, 3) := by decide +kernel
theorem dX12_best_31 : decode cX12_best 31 = .ok (.iconst 0, 1) := by decide +kernel
theorem dX12_best_32 : decode cX12_best 32 = .ok (.iconst 1, 1) := by decide +kernel
theorem dX12_best_33 : decode cX12_best 33 = .ok (.invokevirtual 155, 3) := by decide +kernel
theorem dX12_best_36 : decode cX12_best 36 = .ok (.ifCond .eq 16, 3) := by decide +kernel
theorem dX12_best_39 : decode cX12_best 39 = .ok (.aload_n 0, 1) := by decide +kernel
theorem dX12_best_40 : decode cX12_best 40 = .ok (.aload_n 0, 1) := by decide +kernel
theorem dX12_best_41 : decode cX12_best 41 = .ok (.iload_n 1, 1) := by decide +kernel
theorem dX12_best_42 : decode cX12_best 42 = .ok (.invokevirtual 398, 3) := by decide +kernel
theorem dX12_best_45 : decode cX12_best 45 = .ok (.iconst 2, 1) := by decide +kernel
theorem dX12_best_46 : decode cX12_best 46 = .ok (.invokevirtual 155, 3) := by decide +kernel
theorem dX12_best_49 : decode cX12_best 49 = .ok (.ifCond .ne 5, 3) := by decide +kernel
theorem dX12_best_52 : decode cX12_best 52 = .ok (.iconst 0, 1) := by decide +kernel
theorem dX12_best_53 : decode cX12_best 53 = .ok (.ireturn, 1) := by decide +kernel
theorem dX12_best_54 : decode cX12_best 54 = .ok (.aload_n 0, 1) := by decide +kernel
theorem dX12_best_55 : decode cX12_best 55 = .ok (.invokevirtual 369, 3) := by decide +kernel
theorem dX12_best_58 : decode cX12_best 58 = .ok (.iload_n 1, 1) := by decide +kernel
theorem dX12_best_59 : decode cX12_best 59 = .ok (.ifCond .ne 7, 3) := by decide +kernel
theorem dX12_best_62 : decode cX12_best 62 = .ok (.iconst 0, 1) := by decide +kernel
theorem dX12_best_63 : decode cX12_best 63 = .ok (.goto 27, 3) := by decide +kernel
theorem dX12_best_66 : decode cX12_best 66 = .ok (.aload_n 0, 1) := by decide +kernel
theorem dX12_best_67 : decode cX12_best 67 = .ok (.getfield 88, 3) := by decide +kernel
theorem dX12_best_70 : decode cX12_best 70 = .ok (.aload_n 0, 1) := by decide +kernel
theorem dX12_best_71 : decode cX12_best 71 = .ok (.getfield 84, 3) := by decide +kernel
theorem dX12_best_74 : decode cX12_best 74 = .ok (.bipush 21, 2) := by decide +kernel
theorem dX12_best_76 : decode cX12_best 76 = .ok (.aload_n 0, 1) := by decide +kernel
theorem dX12_best_77 : decode cX12_best 77 = .ok (.iload_n 1, 1) := by decide +kernel
theorem dX12_best_78 : decode cX12_best 78 = .ok (.invokevirtual 375, 3) := by decide +kernel
theorem dX12_best_81 : decode cX12_best 81 = .ok (.imul, 1) := by decide +kernel
theorem dX12_best_82 : decode cX12_best 82 = .ok (.iload_n 2, 1) := by decide +kernel
theorem dX12_best_83 : decode cX12_best 83 = .ok (.iload_n 3, 1) := by decide +kernel
theorem dX12_best_84 : decode cX12_best 84 = .ok (.invokestatic 385, 3) := by decide +kernel
theorem dX12_best_87 : decode cX12_best 87 = .ok (.iadd, 1) := by decide +kernel
theorem dX12_best_88 : decode cX12_best 88 = .ok (.iaload, 1) := by decide +kernel
theorem dX12_best_89 : decode cX12_best 89 = .ok (.iaload, 1) := by decide +kernel
theorem dX12_best_90 : decode cX12_best 90 = .ok (.ireturn, 1) := by decide +kernel
theorem dX12_isZero_0 : decode cX12_isZero 0 = .ok (.iconst 0, 1) := by decide +kernel
theorem dX12_isZero_1 : decode cX12_isZero 1 = .ok (.istore_n 1, 1) := by decide +kernel
theorem dX12_isZero_2 : decode cX12_isZero 2 = .ok (.iload_n 1, 1) := by decide +kernel
theorem dX12_isZero_3 : decode cX12_isZero 3 = .ok (.aload_n 0, 1) := by decide +kernel
theorem dX12_isZero_4 : decode cX12_isZero 4 = .ok (.arraylength, 1) := by decide +kernel
theorem dX12_isZero_5 : decode cX12_isZero 5 = .ok (.if_icmp .ge 17, 3) := by decide +kernel
theorem dX12_isZero_8 : decode cX12_isZero 8 = .ok (.aload_n 0, 1) := by decide +kernel
theorem dX12_isZero_9 : decode cX12_isZero 9 = .ok (.iload_n 1, 1) := by decide +kernel
theorem dX12_isZero_10 : decode cX12_isZero 10 = .ok (.iaload, 1) := by decide +kernel
theorem dX12_isZero_11 : decode cX12_isZero 11 = .ok (.ifCond .eq 5, 3) := by decide +kernel
theorem dX12_isZero_14 : decode cX12_isZero 14 = .ok (.iconst 0, 1) := by decide +kernel
theorem dX12_isZero_15 : decode cX12_isZero 15 = .ok (.ireturn, 1) := by decide +kernel
theorem dX12_isZero_16 : decode cX12_isZero 16 = .ok (.iinc 1 1, 3) := by decide +kernel
theorem dX12_isZero_19 : decode cX12_isZero 19 = .ok (.goto (-17), 3) := by decide +kernel
theorem dX12_isZero_22 : decode cX12_isZero 22 = .ok (.iconst 1, 1) := by decide +kernel
theorem dX12_isZero_23 : decode cX12_isZero 23 = .ok (.ireturn, 1) := by decide +kernel
theorem dX12_printWhole_0 : decode cX12_printWhole 0 = .ok (.iconst 0, 1) := by decide +kernel
theorem dX12_printWhole_1 : decode cX12_printWhole 1 = .ok (.istore_n 2, 1) := by decide +kernel
theorem dX12_printWhole_2 : decode cX12_printWhole 2 = .ok (.aload_n 0, 1) := by decide +kernel
theorem dX12_printWhole_3 : decode cX12_printWhole 3 = .ok (.getfield 106, 3) := by decide +kernel
theorem dX12_printWhole_6 : decode cX12_printWhole 6 = .ok (.iload_n 2, 1) := by decide +kernel
theorem dX12_printWhole_7 : decode cX12_printWhole 7 = .ok (.aload_n 1, 1) := by decide +kernel
theorem dX12_printWhole_8 : decode cX12_printWhole 8 = .ok (.bipush 10, 2) := by decide +kernel
theorem dX12_printWhole_10 : decode cX12_printWhole 10 = .ok (.invokestatic 391, 3) := by decide +kernel
theorem dX12_printWhole_13 : decode cX12_printWhole 13 = .ok (.iastore, 1) := by decide +kernel
theorem dX12_printWhole_14 : decode cX12_printWhole 14 = .ok (.iinc 2 1, 3) := by decide +kernel
theorem dX12_printWhole_17 : decode cX12_printWhole 17 = .ok (.aload_n 1, 1) := by decide +kernel
theorem dX12_printWhole_18 : decode cX12_printWhole 18 = .ok (.invokestatic 401, 3) := by decide +kernel
theorem dX12_printWhole_21 : decode cX12_printWhole 21 = .ok (.ifCond .eq (-19), 3) := by decide +kernel
theorem dX12_printWhole_24 : decode cX12_printWhole 24 = .ok (.iload_n 2, 1) := by decide +kernel
theorem dX12_printWhole_25 : decode cX12_printWhole 25 = .ok (.iconst 1, 1) := by decide +kernel
theorem dX12_printWhole_26 : decode cX12_printWhole 26 = .ok (.isub, 1) := by decide +kernel
theorem dX12_printWhole_27 : decode cX12_printWhole 27 = .ok (.istore_n 3, 1) := by decide +kernel
theorem dX12_printWhole_28 : decode cX12_printWhole 28 = .ok (.iload_n 3, 1) := by decide +kernel
theorem dX12_printWhole_29 : decode cX12_printWhole 29 = .ok (.ifCond .lt 37, 3) := by decide +kernel
theorem dX12_printWhole_32 : decode cX12_printWhole 32 = .ok (.aload_n 0, 1) := by decide +kernel
theorem dX12_printWhole_33 : decode cX12_printWhole 33 = .ok (.getfield 103, 3) := by decide +kernel
theorem dX12_printWhole_36 : decode cX12_printWhole 36 = .ok (.aload_n 0, 1) := by decide +kernel
theorem dX12_printWhole_37 : decode cX12_printWhole 37 = .ok (.getfield 170, 3) := by decide +kernel
theorem dX12_printWhole_40 : decode cX12_printWhole 40 = .ok (.bipush 48, 2) := by decide +kernel
theorem dX12_printWhole_42 : decode cX12_printWhole 42 = .ok (.aload_n 0, 1) := by decide +kernel
theorem dX12_printWhole_43 : decode cX12_printWhole 43 = .ok (.getfield 106, 3) := by decide +kernel
theorem dX12_printWhole_46 : decode cX12_printWhole 46 = .ok (.iload_n 3, 1) := by decide +kernel
theorem dX12_printWhole_47 : decode cX12_printWhole 47 = .ok (.iaload, 1) := by decide +kernel
theorem dX12_printWhole_48 : decode cX12_printWhole 48 = .ok (.iadd, 1) := by decide +kernel
theorem dX12_printWhole_49 : decode cX12_printWhole 49 = .ok (.iastore, 1) := by decide +kernel
theorem dX12_printWhole_50 : decode cX12_printWhole 50 = .ok (.aload_n 0, 1) := by decide +kernel
theorem dX12_printWhole_51 : decode cX12_printWhole 51 = .ok (.dup, 1) := by decide +kernel
theorem dX12_printWhole_52 : decode cX12_printWhole 52 = .ok (.getfield 170, 3) := by decide +kernel
theorem dX12_printWhole_55 : decode cX12_printWhole 55 = .ok (.iconst 1, 1) := by decide +kernel
theorem dX12_printWhole_56 : decode cX12_printWhole 56 = .ok (.iadd, 1) := by decide +kernel
theorem dX12_printWhole_57 : decode cX12_printWhole 57 = .ok (.putfield 170, 3) := by decide +kernel
theorem dX12_printWhole_60 : decode cX12_printWhole 60 = .ok (.iinc 3 (-1), 3) := by decide +kernel
theorem dX12_printWhole_63 : decode cX12_printWhole 63 = .ok (.goto (-35), 3) := by decide +kernel
theorem dX12_printWhole_66 : decode cX12_printWhole 66 = .ok (.return_, 1) := by decide +kernel
theorem dX12_lessen_0 : decode cX12_lessen 0 = .ok (.iconst 1, 1) := by decide +kernel
theorem dX12_lessen_1 : decode cX12_lessen 1 = .ok (.istore_n 3, 1) := by decide +kernel
theorem dX12_lessen_2 : decode cX12_lessen 2 = .ok (.iconst 0, 1) := by decide +kernel
theorem dX12_lessen_3 : decode cX12_lessen 3 = .ok (.istore 4, 2) := by decide +kernel
theorem dX12_lessen_5 : decode cX12_lessen 5 = .ok (.iload 4, 2) := by decide +kernel
theorem dX12_lessen_7 : decode cX12_lessen 7 = .ok (.iload_n 2, 1) := by decide +kernel
theorem dX12_lessen_8 : decode cX12_lessen 8 = .ok (.if_icmp .ge 106, 3) := by decide +kernel
theorem dX12_lessen_11 : decode cX12_lessen 11 = .ok (.iload_n 3, 1) := by decide +kernel
theorem dX12_lessen_12 : decode cX12_lessen 12 = .ok (.ifCond .eq 102, 3) := by decide +kernel
theorem dX12_lessen_15 : decode cX12_lessen 15 = .ok (.iconst 0, 1) := by decide +kernel
theorem dX12_lessen_16 : decode cX12_lessen 16 = .ok (.istore 5, 2) := by decide +kernel
theorem dX12_lessen_18 : decode cX12_lessen 18 = .ok (.iload 5, 2) := by decide +kernel
theorem dX12_lessen_20 : decode cX12_lessen 20 = .ok (.bipush 12, 2) := by decide +kernel
theorem dX12_lessen_22 : decode cX12_lessen 22 = .ok (.if_icmp .ge 23, 3) := by decide +kernel
theorem dX12_lessen_25 : decode cX12_lessen 25 = .ok (.aload_n 0, 1) := by decide +kernel
theorem dX12_lessen_26 : decode cX12_lessen 26 = .ok (.getfield 115, 3) := by decide +kernel
theorem dX12_lessen_29 : decode cX12_lessen 29 = .ok (.iload 5, 2) := by decide +kernel
theorem dX12_lessen_31 : decode cX12_lessen 31 = .ok (.aload_n 0, 1) := by decide +kernel
theorem dX12_lessen_32 : decode cX12_lessen 32 = .ok (.getfield 109, 3) := by decide +kernel
theorem dX12_lessen_35 : decode cX12_lessen 35 = .ok (.iload 5, 2) := by decide +kernel
theorem dX12_lessen_37 : decode cX12_lessen 37 = .ok (.iaload, 1) := by decide +kernel
theorem dX12_lessen_38 : decode cX12_lessen 38 = .ok (.iastore, 1) := by decide +kernel
theorem dX12_lessen_39 : decode cX12_lessen 39 = .ok (.iinc 5 1, 3) := by decide +kernel
theorem dX12_lessen_42 : decode cX12_lessen 42 = .ok (.goto (-24), 3) := by decide +kernel
theorem dX12_lessen_45 : decode cX12_lessen 45 = .ok (.aload_n 0, 1) := by decide +kernel
theorem dX12_lessen_46 : decode cX12_lessen 46 = .ok (.getfield 115, 3) := by decide +kernel
theorem dX12_lessen_49 : decode cX12_lessen 49 = .ok (.iload_n 1, 1) := by decide +kernel
theorem dX12_lessen_50 : decode cX12_lessen 50 = .ok (.invokestatic 391, 3) := by decide +kernel
theorem dX12_lessen_53 : decode cX12_lessen 53 = .ok (.ifCond .ne 7, 3) := by decide +kernel
theorem dX12_lessen_56 : decode cX12_lessen 56 = .ok (.iconst 1, 1) := by decide +kernel
theorem dX12_lessen_57 : decode cX12_lessen 57 = .ok (.goto 4, 3) := by decide +kernel
theorem dX12_lessen_60 : decode cX12_lessen 60 = .ok (.iconst 0, 1) := by decide +kernel
theorem dX12_lessen_61 : decode cX12_lessen 61 = .ok (.istore_n 3, 1) := by decide +kernel
theorem dX12_lessen_62 : decode cX12_lessen 62 = .ok (.iload_n 3, 1) := by decide +kernel
theorem dX12_lessen_63 : decode cX12_lessen 63 = .ok (.ifCond .ne 6, 3) := by decide +kernel
theorem dX12_lessen_66 : decode cX12_lessen 66 = .ok (.goto 42, 3) := by decide +kernel
theorem dX12_lessen_69 : decode cX12_lessen 69 = .ok (.iconst 0, 1) := by decide +kernel
theorem dX12_lessen_70 : decode cX12_lessen 70 = .ok (.istore 5, 2) := by decide +kernel
theorem dX12_lessen_72 : decode cX12_lessen 72 = .ok (.iload 5, 2) := by decide +kernel
theorem dX12_lessen_74 : decode cX12_lessen 74 = .ok (.bipush 12, 2) := by decide +kernel
theorem dX12_lessen_76 : decode cX12_lessen 76 = .ok (.if_icmp .ge 23, 3) := by decide +kernel
theorem dX12_lessen_79 : decode cX12_lessen 79 = .ok (.aload_n 0, 1) := by decide +kernel
theorem dX12_lessen_80 : decode cX12_lessen 80 = .ok (.getfield 109, 3) := by decide +kernel
theorem dX12_lessen_83 : decode cX12_lessen 83 = .ok (.iload 5, 2) := by decide +kernel
theorem dX12_lessen_85 : decode cX12_lessen 85 = .ok (.aload_n 0, 1) := by decide +kernel
theorem dX12_lessen_86 : decode cX12_lessen 86 = .ok (.getfield 115, 3) := by decide +kernel
theorem dX12_lessen_89 : decode cX12_lessen 89 = .ok (.iload 5, 2) := by decide +kernel
theorem dX12_lessen_91 : decode cX12_lessen 91 = .ok (.iaload, 1) := by decide +kernel
theorem dX12_lessen_92 : decode cX12_lessen 92 = .ok (.iastore, 1) := by decide +kernel
theorem dX12_lessen_93 : decode cX12_lessen 93 = .ok (.iinc 5 1, 3) := by decide +kernel
theorem dX12_lessen_96 : decode cX12_lessen 96 = .ok (.goto (-24), 3) := by decide +kernel
theorem dX12_lessen_99 : decode cX12_lessen 99 = .ok (.aload_n 0, 1) := by decide +kernel
theorem dX12_lessen_100 : decode cX12_lessen 100 = .ok (.getfield 112, 3) := by decide +kernel
theorem dX12_lessen_103 : decode cX12_lessen 103 = .ok (.iload_n 1, 1) := by decide +kernel
theorem dX12_lessen_104 : decode cX12_lessen 104 = .ok (.invokestatic 391, 3) := by decide +kernel
theorem dX12_lessen_107 : decode cX12_lessen 107 = .ok (.pop, 1) := by decide +kernel
theorem dX12_lessen_108 : decode cX12_lessen 108 = .ok (.iinc 4 1, 3) := by decide +kernel
theorem dX12_lessen_111 : decode cX12_lessen 111 = .ok (.goto (-106), 3) := by decide +kernel
theorem dX12_lessen_114 : decode cX12_lessen 114 = .ok (.return_, 1) := by decide +kernel
theorem dX12_printOver_0 : decode cX12_printOver 0 = .ok (.aload_n 0, 1) := by decide +kernel
theorem dX12_printOver_1 : decode cX12_printOver 1 = .ok (.iconst 0, 1) := by decide +kernel
theorem dX12_printOver_2 : decode cX12_printOver 2 = .ok (.putfield 170, 3) := by decide +kernel
theorem dX12_printOver_5 : decode cX12_printOver 5 = .ok (.iconst 0, 1) := by decide +kernel
theorem dX12_printOver_6 : decode cX12_printOver 6 = .ok (.istore_n 2, 1) := by decide +kernel
theorem dX12_printOver_7 : decode cX12_printOver 7 = .ok (.iload_n 2, 1) := by decide +kernel
theorem dX12_printOver_8 : decode cX12_printOver 8 = .ok (.bipush 12, 2) := by decide +kernel
theorem dX12_printOver_10 : decode cX12_printOver 10 = .ok (.if_icmp .ge 24, 3) := by decide +kernel
theorem dX12_printOver_13 : decode cX12_printOver 13 = .ok (.aload_n 0, 1) := by decide +kernel
theorem dX12_printOver_14 : decode cX12_printOver 14 = .ok (.getfield 112, 3) := by decide +kernel
theorem dX12_printOver_17 : decode cX12_printOver 17 = .ok (.iload_n 2, 1) := by decide +kernel
theorem dX12_printOver_18 : decode cX12_printOver 18 = .ok (.iload_n 2, 1) := by decide +kernel
theorem dX12_printOver_19 : decode cX12_printOver 19 = .ok (.ifCond .ne 7, 3) := by decide +kernel
theorem dX12_printOver_22 : decode cX12_printOver 22 = .ok (.iconst 1, 1) := by decide +kernel
theorem dX12_printOver_23 : decode cX12_printOver 23 = .ok (.goto 4, 3) := by decide +kernel
theorem dX12_printOver_26 : decode cX12_printOver 26 = .ok (.iconst 0, 1) := by decide +kernel
theorem dX12_printOver_27 : decode cX12_printOver 27 = .ok (.iastore, 1) := by decide +kernel
theorem dX12_printOver_28 : decode cX12_printOver 28 = .ok (.iinc 2 1, 3) := by decide +kernel
theorem dX12_printOver_31 : decode cX12_printOver 31 = .ok (.goto (-24), 3) := by decide +kernel
theorem dX12_printOver_34 : decode cX12_printOver 34 = .ok (.iconst 0, 1) := by decide +kernel
theorem dX12_printOver_35 : decode cX12_printOver 35 = .ok (.istore_n 2, 1) := by decide +kernel
theorem dX12_printOver_36 : decode cX12_printOver 36 = .ok (.iload_n 2, 1) := by decide +kernel
theorem dX12_printOver_37 : decode cX12_printOver 37 = .ok (.iload_n 1, 1) := by decide +kernel
theorem dX12_printOver_38 : decode cX12_printOver 38 = .ok (.if_icmp .ge 18, 3) := by decide +kernel
theorem dX12_printOver_41 : decode cX12_printOver 41 = .ok (.aload_n 0, 1) := by decide +kernel
theorem dX12_printOver_42 : decode cX12_printOver 42 = .ok (.getfield 112, 3) := by decide +kernel
theorem dX12_printOver_45 : decode cX12_printOver 45 = .ok (.bipush 36, 2) := by decide +kernel
theorem dX12_printOver_47 : decode cX12_printOver 47 = .ok (.invokestatic 353, 3) := by decide +kernel
theorem dX12_printOver_50 : decode cX12_printOver 50 = .ok (.iinc 2 1, 3) := by decide +kernel
theorem dX12_printOver_53 : decode cX12_printOver 53 = .ok (.goto (-17), 3) := by decide +kernel
theorem dX12_printOver_56 : decode cX12_printOver 56 = .ok (.aload_n 0, 1) := by decide +kernel
theorem dX12_printOver_57 : decode cX12_printOver 57 = .ok (.getfield 109, 3) := by decide +kernel
theorem dX12_printOver_60 : decode cX12_printOver 60 = .ok (.invokestatic 401, 3) := by decide +kernel
theorem dX12_printOver_63 : decode cX12_printOver 63 = .ok (.ifCond .eq 18, 3) := by decide +kernel
theorem dX12_printOver_66 : decode cX12_printOver 66 = .ok (.aload_n 0, 1) := by decide +kernel
theorem dX12_printOver_67 : decode cX12_printOver 67 = .ok (.getfield 103, 3) := by decide +kernel
theorem dX12_printOver_70 : decode cX12_printOver 70 = .ok (.iconst 0, 1) := by decide +kernel
theorem dX12_printOver_71 : decode cX12_printOver 71 = .ok (.bipush 48, 2) := by decide +kernel
theorem dX12_printOver_73 : decode cX12_printOver 73 = .ok (.iastore, 1) := by decide +kernel
theorem dX12_printOver_74 : decode cX12_printOver 74 = .ok (.aload_n 0, 1) := by decide +kernel
theorem dX12_printOver_75 : decode cX12_printOver 75 = .ok (.iconst 1, 1) := by decide +kernel
theorem dX12_printOver_76 : decode cX12_printOver 76 = .ok (.putfield 170, 3) := by decide +kernel
theorem dX12_printOver_79 : decode cX12_printOver 79 = .ok (.iconst 1, 1) := by decide +kernel
theorem dX12_printOver_80 : decode cX12_printOver 80 = .ok (.ireturn, 1) := by decide +kernel
theorem dX12_printOver_81 : decode cX12_printOver 81 = .ok (.aload_n 0, 1) := by decide +kernel
theorem dX12_printOver_82 : decode cX12_printOver 82 = .ok (.iconst 2, 1) := by decide +kernel
theorem dX12_printOver_83 : decode cX12_printOver 83 = .ok (.iconst 2, 1) := by decide +kernel
theorem dX12_printOver_84 : decode cX12_printOver 84 = .ok (.iload_n 1, 1) := by decide +kernel
theorem dX12_printOver_85 : decode cX12_printOver 85 = .ok (.imul, 1) := by decide +kernel
theorem dX12_printOver_86 : decode cX12_printOver 86 = .ok (.invokevirtual 405, 3) := by decide +kernel
theorem dX12_printOver_89 : decode cX12_printOver 89 = .ok (.aload_n 0, 1) := by decide +kernel
theorem dX12_printOver_90 : decode cX12_printOver 90 = .ok (.iconst 3, 1) := by decide +kernel
theorem dX12_printOver_91 : decode cX12_printOver 91 = .ok (.iconst 2, 1) := by decide +kernel
theorem dX12_printOver_92 : decode cX12_printOver 92 = .ok (.iload_n 1, 1) := by decide +kernel
theorem dX12_printOver_93 : decode cX12_printOver 93 = .ok (.imul, 1) := by decide +kernel
theorem dX12_printOver_94 : decode cX12_printOver 94 = .ok (.invokevirtual 405, 3) := by decide +kernel
theorem dX12_printOver_97 : decode cX12_printOver 97 = .ok (.aload_n 0, 1) := by decide +kernel
theorem dX12_printOver_98 : decode cX12_printOver 98 = .ok (.aload_n 0, 1) := by decide +kernel
theorem dX12_printOver_99 : decode cX12_printOver 99 = .ok (.getfield 109, 3) := by decide +kernel
theorem dX12_printOver_102 : decode cX12_printOver 102 = .ok (.invokevirtual 408, 3) := by decide +kernel
theorem dX12_printOver_105 : decode cX12_printOver 105 = .ok (.aload_n 0, 1) := by decide +kernel
theorem dX12_printOver_106 : decode cX12_printOver 106 = .ok (.getfield 112, 3) := by decide +kernel
theorem dX12_printOver_109 : decode cX12_printOver 109 = .ok (.iconst 0, 1) := by decide +kernel
theorem dX12_printOver_110 : decode cX12_printOver 110 = .ok (.iaload, 1) := by decide +kernel
theorem dX12_printOver_111 : decode cX12_printOver 111 = .ok (.iconst 1, 1) := by decide +kernel
theorem dX12_printOver_112 : decode cX12_printOver 112 = .ok (.if_icmp .ne 7, 3) := by decide +kernel
theorem dX12_printOver_115 : decode cX12_printOver 115 = .ok (.iconst 1, 1) := by decide +kernel
theorem dX12_printOver_116 : decode cX12_printOver 116 = .ok (.goto 4, 3) := by decide +kernel
theorem dX12_printOver_119 : decode cX12_printOver 119 = .ok (.iconst 0, 1) := by decide +kernel
theorem dX12_printOver_120 : decode cX12_printOver 120 = .ok (.istore_n 2, 1) := by decide +kernel
theorem dX12_printOver_121 : decode cX12_printOver 121 = .ok (.iconst 1, 1) := by decide +kernel
theorem dX12_printOver_122 : decode cX12_printOver 122 = .ok (.istore_n 3, 1) := by decide +kernel
theorem dX12_printOver_123 : decode cX12_printOver 123 = .ok (.iload_n 3, 1) := by decide +kernel
theorem dX12_printOver_124 : decode cX12_printOver 124 = .ok (.bipush 12, 2) := by decide +kernel
theorem dX12_printOver_126 : decode cX12_printOver 126 = .ok (.if_icmp .ge 28, 3) := by decide +kernel
theorem dX12_printOver_129 : decode cX12_printOver 129 = .ok (.iload_n 2, 1) := by decide +kernel
theorem dX12_printOver_130 : decode cX12_printOver 130 = .ok (.ifCond .eq 16, 3) := by decide +kernel
theorem dX12_printOver_133 : decode cX12_printOver 133 = .ok (.aload_n 0, 1) := by decide +kernel
theorem dX12_printOver_134 : decode cX12_printOver 134 = .ok (.getfield 112, 3) := by decide +kernel
theorem dX12_printOver_137 : decode cX12_printOver 137 = .ok (.iload_n 3, 1) := by decide +kernel
theorem dX12_printOver_138 : decode cX12_printOver 138 = .ok (.iaload, 1) := by decide +kernel
theorem dX12_printOver_139 : decode cX12_printOver 139 = .ok (.ifCond .ne 7, 3) := by decide +kernel
theorem dX12_printOver_142 : decode cX12_printOver 142 = .ok (.iconst 1, 1) := by decide +kernel
theorem dX12_printOver_143 : decode cX12_printOver 143 = .ok (.goto 4, 3) := by decide +kernel
theorem dX12_printOver_146 : decode cX12_printOver 146 = .ok (.iconst 0, 1) := by decide +kernel
theorem dX12_printOver_147 : decode cX12_printOver 147 = .ok (.istore_n 2, 1) := by decide +kernel
theorem dX12_printOver_148 : decode cX12_printOver 148 = .ok (.iinc 3 1, 3) := by decide +kernel
theorem dX12_printOver_151 : decode cX12_printOver 151 = .ok (.goto (-28), 3) := by decide +kernel
theorem dX12_printOver_154 : decode cX12_printOver 154 = .ok (.iload_n 2, 1) := by decide +kernel
theorem dX12_printOver_155 : decode cX12_printOver 155 = .ok (.ifCond .ne 32, 3) := by decide +kernel
theorem dX12_printOver_158 : decode cX12_printOver 158 = .ok (.aload_n 0, 1) := by decide +kernel
theorem dX12_printOver_159 : decode cX12_printOver 159 = .ok (.getfield 103, 3) := by decide +kernel
theorem dX12_printOver_162 : decode cX12_printOver 162 = .ok (.aload_n 0, 1) := by decide +kernel
theorem dX12_printOver_163 : decode cX12_printOver 163 = .ok (.getfield 170, 3) := by decide +kernel
theorem dX12_printOver_166 : decode cX12_printOver 166 = .ok (.bipush 47, 2) := by decide +kernel
theorem dX12_printOver_168 : decode cX12_printOver 168 = .ok (.iastore, 1) := by decide +kernel
theorem dX12_printOver_169 : decode cX12_printOver 169 = .ok (.aload_n 0, 1) := by decide +kernel
theorem dX12_printOver_170 : decode cX12_printOver 170 = .ok (.dup, 1) := by decide +kernel
theorem dX12_printOver_171 : decode cX12_printOver 171 = .ok (.getfield 170, 3) := by decide +kernel
theorem dX12_printOver_174 : decode cX12_printOver 174 = .ok (.iconst 1, 1) := by decide +kernel
theorem dX12_printOver_175 : decode cX12_printOver 175 = .ok (.iadd, 1) := by decide +kernel
theorem dX12_printOver_176 : decode cX12_printOver 176 = .ok (.putfield 170, 3) := by decide +kernel
theorem dX12_printOver_179 : decode cX12_printOver 179 = .ok (.aload_n 0, 1) := by decide +kernel
theorem dX12_printOver_180 : decode cX12_printOver 180 = .ok (.aload_n 0, 1) := by decide +kernel
theorem dX12_printOver_181 : decode cX12_printOver 181 = .ok (.getfield 112, 3) := by decide +kernel
theorem dX12_printOver_184 : decode cX12_printOver 184 = .ok (.invokevirtual 408, 3) := by decide +kernel
theorem dX12_printOver_187 : decode cX12_printOver 187 = .ok (.aload_n 0, 1) := by decide +kernel
theorem dX12_printOver_188 : decode cX12_printOver 188 = .ok (.getfield 170, 3) := by decide +kernel
theorem dX12_printOver_191 : decode cX12_printOver 191 = .ok (.ireturn, 1) := by decide +kernel
theorem dX12_rolls_0 : decode cX12_rolls 0 = .ok (.aload_n 0, 1) := by decide +kernel
theorem dX12_rolls_1 : decode cX12_rolls 1 = .ok (.iconst 0, 1) := by decide +kernel
theorem dX12_rolls_2 : decode cX12_rolls 2 = .ok (.putfield 1, 3) := by decide +kernel
theorem dX12_rolls_5 : decode cX12_rolls 5 = .ok (.aload_n 0, 1) := by decide +kernel
theorem dX12_rolls_6 : decode cX12_rolls 6 = .ok (.iload_n 1, 1) := by decide +kernel
theorem dX12_rolls_7 : decode cX12_rolls 7 = .ok (.invokestatic 395, 3) := by decide +kernel
theorem dX12_rolls_10 : decode cX12_rolls 10 = .ok (.iconst 1, 1) := by decide +kernel
theorem dX12_rolls_11 : decode cX12_rolls 11 = .ok (.invokevirtual 155, 3) := by decide +kernel
theorem dX12_rolls_14 : decode cX12_rolls 14 = .ok (.ifCond .eq 16, 3) := by decide +kernel
theorem dX12_rolls_17 : decode cX12_rolls 17 = .ok (.aload_n 0, 1) := by decide +kernel
theorem dX12_rolls_18 : decode cX12_rolls 18 = .ok (.aload_n 0, 1) := by decide +kernel
theorem dX12_rolls_19 : decode cX12_rolls 19 = .ok (.iload_n 1, 1) := by decide +kernel
theorem dX12_rolls_20 : decode cX12_rolls 20 = .ok (.invokevirtual 398, 3) := by decide +kernel
theorem dX12_rolls_23 : decode cX12_rolls 23 = .ok (.iconst 2, 1) := by decide +kernel
theorem dX12_rolls_24 : decode cX12_rolls 24 = .ok (.invokevirtual 155, 3) := by decide +kernel
theorem dX12_rolls_27 : decode cX12_rolls 27 = .ok (.ifCond .ne 5, 3) := by decide +kernel
theorem dX12_rolls_30 : decode cX12_rolls 30 = .ok (.iconst 0, 1) := by decide +kernel
theorem dX12_rolls_31 : decode cX12_rolls 31 = .ok (.ireturn, 1) := by decide +kernel
theorem dX12_rolls_32 : decode cX12_rolls 32 = .ok (.aload_n 0, 1) := by decide +kernel
theorem dX12_rolls_33 : decode cX12_rolls 33 = .ok (.invokevirtual 369, 3) := by decide +kernel
theorem dX12_rolls_36 : decode cX12_rolls 36 = .ok (.aload_n 0, 1) := by decide +kernel
theorem dX12_rolls_37 : decode cX12_rolls 37 = .ok (.iload_n 1, 1) := by decide +kernel
theorem dX12_rolls_38 : decode cX12_rolls 38 = .ok (.invokevirtual 375, 3) := by decide +kernel
theorem dX12_rolls_41 : decode cX12_rolls 41 = .ok (.istore_n 2, 1) := by decide +kernel
theorem dX12_rolls_42 : decode cX12_rolls 42 = .ok (.iconst 0, 1) := by decide +kernel
theorem dX12_rolls_43 : decode cX12_rolls 43 = .ok (.istore_n 3, 1) := by decide +kernel
theorem dX12_rolls_44 : decode cX12_rolls 44 = .ok (.iload_n 3, 1) := by decide +kernel
theorem dX12_rolls_45 : decode cX12_rolls 45 = .ok (.bipush 12, 2) := by decide +kernel
theorem dX12_rolls_47 : decode cX12_rolls 47 = .ok (.if_icmp .ge 36, 3) := by decide +kernel
theorem dX12_rolls_50 : decode cX12_rolls 50 = .ok (.aload_n 0, 1) := by decide +kernel
theorem dX12_rolls_51 : decode cX12_rolls 51 = .ok (.getfield 109, 3) := by decide +kernel
theorem dX12_rolls_54 : decode cX12_rolls 54 = .ok (.iload_n 3, 1) := by decide +kernel
theorem dX12_rolls_55 : decode cX12_rolls 55 = .ok (.iload_n 3, 1) := by decide +kernel
theorem dX12_rolls_56 : decode cX12_rolls 56 = .ok (.bipush 8, 2) := by decide +kernel
theorem dX12_rolls_58 : decode cX12_rolls 58 = .ok (.if_icmp .ge 17, 3) := by decide +kernel
theorem dX12_rolls_61 : decode cX12_rolls 61 = .ok (.aload_n 0, 1) := by decide +kernel
theorem dX12_rolls_62 : decode cX12_rolls 62 = .ok (.getfield 80, 3) := by decide +kernel
theorem dX12_rolls_65 : decode cX12_rolls 65 = .ok (.bipush 8, 2) := by decide +kernel
theorem dX12_rolls_67 : decode cX12_rolls 67 = .ok (.iload_n 2, 1) := by decide +kernel
theorem dX12_rolls_68 : decode cX12_rolls 68 = .ok (.imul, 1) := by decide +kernel
theorem dX12_rolls_69 : decode cX12_rolls 69 = .ok (.iload_n 3, 1) := by decide +kernel
theorem dX12_rolls_70 : decode cX12_rolls 70 = .ok (.iadd, 1) := by decide +kernel
theorem dX12_rolls_71 : decode cX12_rolls 71 = .ok (.iaload, 1) := by decide +kernel
theorem dX12_rolls_72 : decode cX12_rolls 72 = .ok (.goto 4, 3) := by decide +kernel
theorem dX12_rolls_75 : decode cX12_rolls 75 = .ok (.iconst 0, 1) := by decide +kernel
theorem dX12_rolls_76 : decode cX12_rolls 76 = .ok (.iastore, 1) := by decide +kernel
theorem dX12_rolls_77 : decode cX12_rolls 77 = .ok (.iinc 3 1, 3) := by decide +kernel
theorem dX12_rolls_80 : decode cX12_rolls 80 = .ok (.goto (-36), 3) := by decide +kernel
theorem dX12_rolls_83 : decode cX12_rolls 83 = .ok (.aload_n 0, 1) := by decide +kernel
theorem dX12_rolls_84 : decode cX12_rolls 84 = .ok (.bipush 36, 2) := by decide +kernel
theorem dX12_rolls_86 : decode cX12_rolls 86 = .ok (.invokevirtual 412, 3) := by decide +kernel
theorem dX12_rolls_89 : decode cX12_rolls 89 = .ok (.ireturn, 1) := by decide +kernel
theorem dX12_octet_0 : decode cX12_octet 0 = .ok (.aload_n 0, 1) := by decide +kernel
theorem dX12_octet_1 : decode cX12_octet 1 = .ok (.iconst 0, 1) := by decide +kernel
theorem dX12_octet_2 : decode cX12_octet 2 = .ok (.putfield 1, 3) := by decide +kernel
theorem dX12_octet_5 : decode cX12_octet 5 = .ok (.iload_n 1, 1) := by decide +kernel
theorem dX12_octet_6 : decode cX12_octet 6 = .ok (.ifCond .lt 20, 3) := by decide +kernel
theorem dX12_octet_9 : decode cX12_octet 9 = .ok (.iload_n 1, 1) := by decide +kernel
theorem dX12_octet_10 : decode cX12_octet 10 = .ok (.aload_n 0, 1) := by decide +kernel
theorem dX12_octet_11 : decode cX12_octet 11 = .ok (.getfield 170, 3) := by decide +kernel
theorem dX12_octet_14 : decode cX12_octet 14 = .ok (.if_icmp .ge 12, 3) := by decide +kernel
theorem dX12_octet_17 : decode cX12_octet 17 = .ok (.aload_n 0, 1) := by decide +kernel
theorem dX12_octet_18 : decode cX12_octet 18 = .ok (.getfield 103, 3) := by decide +kernel
theorem dX12_octet_21 : decode cX12_octet 21 = .ok (.iload_n 1, 1) := by decide +kernel
theorem dX12_octet_22 : decode cX12_octet 22 = .ok (.iaload, 1) := by decide +kernel
theorem dX12_octet_23 : decode cX12_octet 23 = .ok (.goto 4, 3) := by decide +kernel
theorem dX12_octet_26 : decode cX12_octet 26 = .ok (.iconst (-1), 1) := by decide +kernel
theorem dX12_octet_27 : decode cX12_octet 27 = .ok (.ireturn, 1) := by decide +kernel
theorem dX12_follow_0 : decode cX12_follow 0 = .ok (.iconst 0, 1) := by decide +kernel
theorem dX12_follow_1 : decode cX12_follow 1 = .ok (.istore 4, 2) := by decide +kernel
theorem dX12_follow_3 : decode cX12_follow 3 = .ok (.iload 4, 2) := by decide +kernel
theorem dX12_follow_5 : decode cX12_follow 5 = .ok (.ldc 87, 2) := by decide +kernel
theorem dX12_follow_7 : decode cX12_follow 7 = .ok (.if_icmp .ge 17, 3) := by decide +kernel
theorem dX12_follow_10 : decode cX12_follow 10 = .ok (.aload_n 0, 1) := by decide +kernel
theorem dX12_follow_11 : decode cX12_follow 11 = .ok (.getfield 118, 3) := by decide +kernel
theorem dX12_follow_14 : decode cX12_follow 14 = .ok (.iload 4, 2) := by decide +kernel
theorem dX12_follow_16 : decode cX12_follow 16 = .ok (.lconst 0, 1) := by decide +kernel
theorem dX12_follow_17 : decode cX12_follow 17 = .ok (.lastore, 1) := by decide +kernel
theorem dX12_follow_18 : decode cX12_follow 18 = .ok (.iinc 4 1, 3) := by decide +kernel
theorem dX12_follow_21 : decode cX12_follow 21 = .ok (.goto (-18), 3) := by decide +kernel
theorem dX12_follow_24 : decode cX12_follow 24 = .ok (.aload_n 0, 1) := by decide +kernel
theorem dX12_follow_25 : decode cX12_follow 25 = .ok (.iload_n 1, 1) := by decide +kernel
theorem dX12_follow_26 : decode cX12_follow 26 = .ok (.invokevirtual 375, 3) := by decide +kernel
theorem dX12_follow_29 : decode cX12_follow 29 = .ok (.istore 4, 2) := by decide +kernel
theorem dX12_follow_31 : decode cX12_follow 31 = .ok (.aload_n 0, 1) := by decide +kernel
theorem dX12_follow_32 : decode cX12_follow 32 = .ok (.getfield 118, 3) := by decide +kernel
theorem dX12_follow_35 : decode cX12_follow 35 = .ok (.iload 4, 2) := by decide +kernel
theorem dX12_follow_37 : decode cX12_follow 37 = .ok (.lconst 1, 1) := by decide +kernel
theorem dX12_follow_38 : decode cX12_follow 38 = .ok (.lastore, 1) := by decide +kernel
theorem dX12_follow_39 : decode cX12_follow 39 = .ok (.aload_n 0, 1) := by decide +kernel
theorem dX12_follow_40 : decode cX12_follow 40 = .ok (.getfield 131, 3) := by decide +kernel
theorem dX12_follow_43 : decode cX12_follow 43 = .ok (.iconst 0, 1) := by decide +kernel
theorem dX12_follow_44 : decode cX12_follow 44 = .ok (.iload 4, 2) := by decide +kernel
theorem dX12_follow_46 : decode cX12_follow 46 = .ok (.iastore, 1) := by decide +kernel
theorem dX12_follow_47 : decode cX12_follow 47 = .ok (.iconst 1, 1) := by decide +kernel
theorem dX12_follow_48 : decode cX12_follow 48 = .ok (.istore 5, 2) := by decide +kernel
theorem dX12_follow_50 : decode cX12_follow 50 = .ok (.aload_n 3, 1) := by decide +kernel
theorem dX12_follow_51 : decode cX12_follow 51 = .ok (.iconst 0, 1) := by decide +kernel
theorem dX12_follow_52 : decode cX12_follow 52 = .ok (.iload_n 1, 1) := by decide +kernel
theorem dX12_follow_53 : decode cX12_follow 53 = .ok (.ifCond .ne 7, 3) := by decide +kernel
theorem dX12_follow_56 : decode cX12_follow 56 = .ok (.lconst 1, 1) := by decide +kernel
theorem dX12_follow_57 : decode cX12_follow 57 = .ok (.goto 4, 3) := by decide +kernel
theorem dX12_follow_60 : decode cX12_follow 60 = .ok (.lconst 0, 1) := by decide +kernel
theorem dX12_follow_61 : decode cX12_follow 61 = .ok (.lastore, 1) := by decide +kernel
theorem dX12_follow_62 : decode cX12_follow 62 = .ok (.iconst 1, 1) := by decide +kernel
theorem dX12_follow_63 : decode cX12_follow 63 = .ok (.istore 6, 2) := by decide +kernel
theorem dX12_follow_65 : decode cX12_follow 65 = .ok (.iload 6, 2) := by decide +kernel
theorem dX12_follow_67 : decode cX12_follow 67 = .ok (.iload_n 2, 1) := by decide +kernel
theorem dX12_follow_68 : decode cX12_follow 68 = .ok (.if_icmp .gt 217, 3) := by decide +kernel
theorem dX12_follow_71 : decode cX12_follow 71 = .ok (.iconst 0, 1) := by decide +kernel
theorem dX12_follow_72 : decode cX12_follow 72 = .ok (.istore 7, 2) := by decide +kernel
theorem dX12_follow_74 : decode cX12_follow 74 = .ok (.iconst 0, 1) := by decide +kernel
theorem dX12_follow_75 : decode cX12_follow 75 = .ok (.istore 8, 2) := by decide +kernel
theorem dX12_follow_77 : decode cX12_follow 77 = .ok (.iload 8, 2) := by decide +kernel
theorem dX12_follow_79 : decode cX12_follow 79 = .ok (.iload 5, 2) := by decide +kernel
theorem dX12_follow_81 : decode cX12_follow 81 = .ok (.if_icmp .ge 128, 3) := by decide +kernel
theorem dX12_follow_84 : decode cX12_follow 84 = .ok (.aload_n 0, 1) := by decide +kernel
theorem dX12_follow_85 : decode cX12_follow 85 = .ok (.getfield 131, 3) := by decide +kernel
theorem dX12_follow_88 : decode cX12_follow 88 = .ok (.iload 8, 2) := by decide +kernel
theorem dX12_follow_90 : decode cX12_follow 90 = .ok (.iaload, 1) := by decide +kernel
theorem dX12_follow_91 : decode cX12_follow 91 = .ok (.istore 9, 2) := by decide +kernel
theorem dX12_follow_93 : decode cX12_follow 93 = .ok (.aload_n 0, 1) := by decide +kernel
theorem dX12_follow_94 : decode cX12_follow 94 = .ok (.getfield 118, 3) := by decide +kernel
theorem dX12_follow_97 : decode cX12_follow 97 = .ok (.iload 9, 2) := by decide +kernel
theorem dX12_follow_99 : decode cX12_follow 99 = .ok (.laload, 1) := by decide +kernel
theorem dX12_follow_100 : decode cX12_follow 100 = .ok (.lstore 10, 2) := by decide +kernel
theorem dX12_follow_102 : decode cX12_follow 102 = .ok (.aload_n 0, 1) := by decide +kernel
theorem dX12_follow_103 : decode cX12_follow 103 = .ok (.getfield 118, 3) := by decide +kernel
theorem dX12_follow_106 : decode cX12_follow 106 = .ok (.iload 9, 2) := by decide +kernel
theorem dX12_follow_108 : decode cX12_follow 108 = .ok (.lconst 0, 1) := by decide +kernel
theorem dX12_follow_109 : decode cX12_follow 109 = .ok (.lastore, 1) := by decide +kernel
theorem dX12_follow_110 : decode cX12_follow 110 = .ok (.iconst 0, 1) := by decide +kernel
theorem dX12_follow_111 : decode cX12_follow 111 = .ok (.istore 12, 2) := by decide +kernel
theorem dX12_follow_113 : decode cX12_follow 113 = .ok (.iload 12, 2) := by decide +kernel
theorem dX12_follow_115 : decode cX12_follow 115 = .ok (.bipush 21, 2) := by decide +kernel
theorem dX12_follow_117 : decode cX12_follow 117 = .ok (.if_icmp .ge 86, 3) := by decide +kernel
theorem dX12_follow_120 : decode cX12_follow 120 = .ok (.iload 9, 2) := by decide +kernel
theorem dX12_follow_122 : decode cX12_follow 122 = .ok (.ifCond .ne 7, 3) := by decide +kernel
theorem dX12_follow_125 : decode cX12_follow 125 = .ok (.iconst 0, 1) := by decide +kernel
theorem dX12_follow_126 : decode cX12_follow 126 = .ok (.goto 16, 3) := by decide +kernel
theorem dX12_follow_129 : decode cX12_follow 129 = .ok (.aload_n 0, 1) := by decide +kernel
theorem dX12_follow_130 : decode cX12_follow 130 = .ok (.getfield 84, 3) := by decide +kernel
theorem dX12_follow_133 : decode cX12_follow 133 = .ok (.bipush 21, 2) := by decide +kernel
theorem dX12_follow_135 : decode cX12_follow 135 = .ok (.iload 9, 2) := by decide +kernel
theorem dX12_follow_137 : decode cX12_follow 137 = .ok (.imul, 1) := by decide +kernel
theorem dX12_follow_138 : decode cX12_follow 138 = .ok (.iload 12, 2) := by decide +kernel
theorem dX12_follow_140 : decode cX12_follow 140 = .ok (.iadd, 1) := by decide +kernel
theorem dX12_follow_141 : decode cX12_follow 141 = .ok (.iaload, 1) := by decide +kernel
theorem dX12_follow_142 : decode cX12_follow 142 = .ok (.istore 13, 2) := by decide +kernel
theorem dX12_follow_144 : decode cX12_follow 144 = .ok (.aload_n 0, 1) := by decide +kernel
theorem dX12_follow_145 : decode cX12_follow 145 = .ok (.getfield 122, 3) := by decide +kernel
theorem dX12_follow_148 : decode cX12_follow 148 = .ok (.iload 13, 2) := by decide +kernel
theorem dX12_follow_150 : decode cX12_follow 150 = .ok (.laload, 1) := by decide +kernel
theorem dX12_follow_151 : decode cX12_follow 151 = .ok (.lconst 0, 1) := by decide +kernel
theorem dX12_follow_152 : decode cX12_follow 152 = .ok (.lcmp, 1) := by decide +kernel
theorem dX12_follow_153 : decode cX12_follow 153 = .ok (.ifCond .ne 15, 3) := by decide +kernel
theorem dX12_follow_156 : decode cX12_follow 156 = .ok (.aload_n 0, 1) := by decide +kernel
theorem dX12_follow_157 : decode cX12_follow 157 = .ok (.getfield 134, 3) := by decide +kernel
theorem dX12_follow_160 : decode cX12_follow 160 = .ok (.iload 7, 2) := by decide +kernel
theorem dX12_follow_162 : decode cX12_follow 162 = .ok (.iload 13, 2) := by decide +kernel
theorem dX12_follow_164 : decode cX12_follow 164 = .ok (.iastore, 1) := by decide +kernel
theorem dX12_follow_165 : decode cX12_follow 165 = .ok (.iinc 7 1, 3) := by decide +kernel
theorem dX12_follow_168 : decode cX12_follow 168 = .ok (.aload_n 0, 1) := by decide +kernel
theorem dX12_follow_169 : decode cX12_follow 169 = .ok (.getfield 122, 3) := by decide +kernel
theorem dX12_follow_172 : decode cX12_follow 172 = .ok (.iload 13, 2) := by decide +kernel
theorem dX12_follow_174 : decode cX12_follow 174 = .ok (.dup2, 1) := by decide +kernel
theorem dX12_follow_175 : decode cX12_follow 175 = .ok (.laload, 1) := by decide +kernel
theorem dX12_follow_176 : decode cX12_follow 176 = .ok (.iload 12, 2) := by decide +kernel
theorem dX12_follow_178 : decode cX12_follow 178 = .ok (.invokestatic 415, 3) := by decide +kernel
theorem dX12_follow_181 : decode cX12_follow 181 = .ok (.ifCond .eq 8, 3) := by decide +kernel
theorem dX12_follow_184 : decode cX12_follow 184 = .ok (.lload 10, 2) := by decide +kernel
theorem dX12_follow_186 : decode cX12_follow 186 = .ok (.goto 9, 3) := by decide +kernel
theorem dX12_follow_189 : decode cX12_follow 189 = .ok (.ldc2_w 418, 3) := by decide +kernel
theorem dX12_follow_192 : decode cX12_follow 192 = .ok (.lload 10, 2) := by decide +kernel
theorem dX12_follow_194 : decode cX12_follow 194 = .ok (.lmul, 1) := by decide +kernel
theorem dX12_follow_195 : decode cX12_follow 195 = .ok (.ladd, 1) := by decide +kernel
theorem dX12_follow_196 : decode cX12_follow 196 = .ok (.lastore, 1) := by decide +kernel
theorem dX12_follow_197 : decode cX12_follow 197 = .ok (.iinc 12 1, 3) := by decide +kernel
theorem dX12_follow_200 : decode cX12_follow 200 = .ok (.goto (-87), 3) := by decide +kernel
theorem dX12_follow_203 : decode cX12_follow 203 = .ok (.iinc 8 1, 3) := by decide +kernel
theorem dX12_follow_206 : decode cX12_follow 206 = .ok (.goto (-129), 3) := by decide +kernel
theorem dX12_follow_209 : decode cX12_follow 209 = .ok (.iconst 0, 1) := by decide +kernel
theorem dX12_follow_210 : decode cX12_follow 210 = .ok (.istore 8, 2) := by decide +kernel
theorem dX12_follow_212 : decode cX12_follow 212 = .ok (.iload 8, 2) := by decide +kernel
theorem dX12_follow_214 : decode cX12_follow 214 = .ok (.iload 7, 2) := by decide +kernel
theorem dX12_follow_216 : decode cX12_follow 216 = .ok (.if_icmp .ge 49, 3) := by decide +kernel
theorem dX12_follow_219 : decode cX12_follow 219 = .ok (.aload_n 0, 1) := by decide +kernel
theorem dX12_follow_220 : decode cX12_follow 220 = .ok (.getfield 134, 3) := by decide +kernel
theorem dX12_follow_223 : decode cX12_follow 223 = .ok (.iload 8, 2) := by decide +kernel
theorem dX12_follow_225 : decode cX12_follow 225 = .ok (.iaload, 1) := by decide +kernel
theorem dX12_follow_226 : decode cX12_follow 226 = .ok (.istore 9, 2) := by decide +kernel
theorem dX12_follow_228 : decode cX12_follow 228 = .ok (.aload_n 0, 1) := by decide +kernel
theorem dX12_follow_229 : decode cX12_follow 229 = .ok (.getfield 131, 3) := by decide +kernel
theorem dX12_follow_232 : decode cX12_follow 232 = .ok (.iload 8, 2) := by decide +kernel
theorem dX12_follow_234 : decode cX12_follow 234 = .ok (.iload 9, 2) := by decide +kernel
theorem dX12_follow_236 : decode cX12_follow 236 = .ok (.iastore, 1) := by decide +kernel
theorem dX12_follow_237 : decode cX12_follow 237 = .ok (.aload_n 0, 1) := by decide +kernel
theorem dX12_follow_238 : decode cX12_follow 238 = .ok (.getfield 118, 3) := by decide +kernel
theorem dX12_follow_241 : decode cX12_follow 241 = .ok (.iload 9, 2) := by decide +kernel
theorem dX12_follow_243 : decode cX12_follow 243 = .ok (.aload_n 0, 1) := by decide +kernel
theorem dX12_follow_244 : decode cX12_follow 244 = .ok (.getfield 122, 3) := by decide +kernel
theorem dX12_follow_247 : decode cX12_follow 247 = .ok (.iload 9, 2) := by decide +kernel
theorem dX12_follow_249 : decode cX12_follow 249 = .ok (.laload, 1) := by decide +kernel
theorem dX12_follow_250 : decode cX12_follow 250 = .ok (.lastore, 1) := by decide +kernel
theorem dX12_follow_251 : decode cX12_follow 251 = .ok (.aload_n 0, 1) := by decide +kernel
theorem dX12_follow_252 : decode cX12_follow 252 = .ok (.getfield 122, 3) := by decide +kernel
theorem dX12_follow_255 : decode cX12_follow 255 = .ok (.iload 9, 2) := by decide +kernel
theorem dX12_follow_257 : decode cX12_follow 257 = .ok (.lconst 0, 1) := by decide +kernel
theorem dX12_follow_258 : decode cX12_follow 258 = .ok (.lastore, 1) := by decide +kernel
theorem dX12_follow_259 : decode cX12_follow 259 = .ok (.iinc 8 1, 3) := by decide +kernel
theorem dX12_follow_262 : decode cX12_follow 262 = .ok (.goto (-50), 3) := by decide +kernel
theorem dX12_follow_265 : decode cX12_follow 265 = .ok (.iload 7, 2) := by decide +kernel
theorem dX12_follow_267 : decode cX12_follow 267 = .ok (.istore 5, 2) := by decide +kernel
theorem dX12_follow_269 : decode cX12_follow 269 = .ok (.aload_n 3, 1) := by decide +kernel
theorem dX12_follow_270 : decode cX12_follow 270 = .ok (.iload 6, 2) := by decide +kernel
theorem dX12_follow_272 : decode cX12_follow 272 = .ok (.aload_n 0, 1) := by decide +kernel
theorem dX12_follow_273 : decode cX12_follow 273 = .ok (.getfield 118, 3) := by decide +kernel
theorem dX12_follow_276 : decode cX12_follow 276 = .ok (.iconst 0, 1) := by decide +kernel
theorem dX12_follow_277 : decode cX12_follow 277 = .ok (.laload, 1) := by decide +kernel
theorem dX12_follow_278 : decode cX12_follow 278 = .ok (.lastore, 1) := by decide +kernel
theorem dX12_follow_279 : decode cX12_follow 279 = .ok (.iinc 6 1, 3) := by decide +kernel
theorem dX12_follow_282 : decode cX12_follow 282 = .ok (.goto (-217), 3) := by decide +kernel
theorem dX12_follow_285 : decode cX12_follow 285 = .ok (.return_, 1) := by decide +kernel
theorem dX12_isDouble_0 : decode cX12_isDouble 0 = .ok (.iload_n 0, 1) := by decide +kernel
theorem dX12_isDouble_1 : decode cX12_isDouble 1 = .ok (.ifCond .eq 31, 3) := by decide +kernel
theorem dX12_isDouble_4 : decode cX12_isDouble 4 = .ok (.iload_n 0, 1) := by decide +kernel
theorem dX12_isDouble_5 : decode cX12_isDouble 5 = .ok (.iconst 2, 1) := by decide +kernel
theorem dX12_isDouble_6 : decode cX12_isDouble 6 = .ok (.if_icmp .eq 26, 3) := by decide +kernel
theorem dX12_isDouble_9 : decode cX12_isDouble 9 = .ok (.iload_n 0, 1) := by decide +kernel
theorem dX12_isDouble_10 : decode cX12_isDouble 10 = .ok (.iconst 5, 1) := by decide +kernel
theorem dX12_isDouble_11 : decode cX12_isDouble 11 = .ok (.if_icmp .eq 21, 3) := by decide +kernel
theorem dX12_isDouble_14 : decode cX12_isDouble 14 = .ok (.iload_n 0, 1) := by decide +kernel
theorem dX12_isDouble_15 : decode cX12_isDouble 15 = .ok (.bipush 9, 2) := by decide +kernel
theorem dX12_isDouble_17 : decode cX12_isDouble 17 = .ok (.if_icmp .eq 15, 3) := by decide +kernel
theorem dX12_isDouble_20 : decode cX12_isDouble 20 = .ok (.iload_n 0, 1) := by decide +kernel
theorem dX12_isDouble_21 : decode cX12_isDouble 21 = .ok (.bipush 14, 2) := by decide +kernel
theorem dX12_isDouble_23 : decode cX12_isDouble 23 = .ok (.if_icmp .eq 9, 3) := by decide +kernel
theorem dX12_isDouble_26 : decode cX12_isDouble 26 = .ok (.iload_n 0, 1) := by decide +kernel
theorem dX12_isDouble_27 : decode cX12_isDouble 27 = .ok (.bipush 20, 2) := by decide +kernel
theorem dX12_isDouble_29 : decode cX12_isDouble 29 = .ok (.if_icmp .ne 7, 3) := by decide +kernel
theorem dX12_isDouble_32 : decode cX12_isDouble 32 = .ok (.iconst 1, 1) := by decide +kernel
theorem dX12_isDouble_33 : decode cX12_isDouble 33 = .ok (.goto 4, 3) := by decide +kernel
theorem dX12_isDouble_36 : decode cX12_isDouble 36 = .ok (.iconst 0, 1) := by decide +kernel
theorem dX12_isDouble_37 : decode cX12_isDouble 37 = .ok (.ireturn, 1) := by decide +kernel
theorem dX12_power_0 : decode cX12_power 0 = .ok (.lconst 1, 1) := by decide +kernel
theorem dX12_power_1 : decode cX12_power 1 = .ok (.lstore_n 1, 1) := by decide +kernel
theorem dX12_power_2 : decode cX12_power 2 = .ok (.iconst 0, 1) := by decide +kernel
theorem dX12_power_3 : decode cX12_power 3 = .ok (.istore_n 3, 1) := by decide +kernel
theorem dX12_power_4 : decode cX12_power 4 = .ok (.iload_n 3, 1) := by decide +kernel
theorem dX12_power_5 : decode cX12_power 5 = .ok (.iload_n 0, 1) := by decide +kernel
theorem dX12_power_6 : decode cX12_power 6 = .ok (.if_icmp .ge 15, 3) := by decide +kernel
theorem dX12_power_9 : decode cX12_power 9 = .ok (.lload_n 1, 1) := by decide +kernel
theorem dX12_power_10 : decode cX12_power 10 = .ok (.ldc2_w 420, 3) := by decide +kernel
theorem dX12_power_13 : decode cX12_power 13 = .ok (.lmul, 1) := by decide +kernel
theorem dX12_power_14 : decode cX12_power 14 = .ok (.lstore_n 1, 1) := by decide +kernel
theorem dX12_power_15 : decode cX12_power 15 = .ok (.iinc 3 1, 3) := by decide +kernel
theorem dX12_power_18 : decode cX12_power 18 = .ok (.goto (-14), 3) := by decide +kernel
theorem dX12_power_21 : decode cX12_power 21 = .ok (.lload_n 1, 1) := by decide +kernel
theorem dX12_power_22 : decode cX12_power 22 = .ok (.lreturn, 1) := by decide +kernel
theorem dX12_put_0 : decode cX12_put 0 = .ok (.iconst 0, 1) := by decide +kernel
theorem dX12_put_1 : decode cX12_put 1 = .ok (.istore_n 3, 1) := by decide +kernel
theorem dX12_put_2 : decode cX12_put 2 = .ok (.iload_n 3, 1) := by decide +kernel
theorem dX12_put_3 : decode cX12_put 3 = .ok (.aload_n 0, 1) := by decide +kernel
theorem dX12_put_4 : decode cX12_put 4 = .ok (.arraylength, 1) := by decide +kernel
theorem dX12_put_5 : decode cX12_put 5 = .ok (.if_icmp .ge 32, 3) := by decide +kernel
theorem dX12_put_8 : decode cX12_put 8 = .ok (.aload_n 0, 1) := by decide +kernel
theorem dX12_put_9 : decode cX12_put 9 = .ok (.iload_n 3, 1) := by decide +kernel
theorem dX12_put_10 : decode cX12_put 10 = .ok (.iload_n 3, 1) := by decide +kernel
theorem dX12_put_11 : decode cX12_put 11 = .ok (.iconst 3, 1) := by decide +kernel
theorem dX12_put_12 : decode cX12_put 12 = .ok (.if_icmp .ge 17, 3) := by decide +kernel
theorem dX12_put_15 : decode cX12_put 15 = .ok (.lload_n 1, 1) := by decide +kernel
theorem dX12_put_16 : decode cX12_put 16 = .ok (.bipush 28, 2) := by decide +kernel
theorem dX12_put_18 : decode cX12_put 18 = .ok (.iload_n 3, 1) := by decide +kernel
theorem dX12_put_19 : decode cX12_put 19 = .ok (.imul, 1) := by decide +kernel
theorem dX12_put_20 : decode cX12_put 20 = .ok (.lshr, 1) := by decide +kernel
theorem dX12_put_21 : decode cX12_put 21 = .ok (.ldc2_w 357, 3) := by decide +kernel
theorem dX12_put_24 : decode cX12_put 24 = .ok (.land, 1) := by decide +kernel
theorem dX12_put_25 : decode cX12_put 25 = .ok (.l2i, 1) := by decide +kernel
theorem dX12_put_26 : decode cX12_put 26 = .ok (.goto 4, 3) := by decide +kernel
theorem dX12_put_29 : decode cX12_put 29 = .ok (.iconst 0, 1) := by decide +kernel
theorem dX12_put_30 : decode cX12_put 30 = .ok (.iastore, 1) := by decide +kernel
theorem dX12_put_31 : decode cX12_put 31 = .ok (.iinc 3 1, 3) := by decide +kernel
theorem dX12_put_34 : decode cX12_put 34 = .ok (.goto (-32), 3) := by decide +kernel
theorem dX12_put_37 : decode cX12_put 37 = .ok (.return_, 1) := by decide +kernel
theorem dX12_within_0 : decode cX12_within 0 = .ok (.aload_n 0, 1) := by decide +kernel
theorem dX12_within_1 : decode cX12_within 1 = .ok (.iconst 0, 1) := by decide +kernel
theorem dX12_within_2 : decode cX12_within 2 = .ok (.putfield 1, 3) := by decide +kernel
theorem dX12_within_5 : decode cX12_within 5 = .ok (.aload_n 0, 1) := by decide +kernel
theorem dX12_within_6 : decode cX12_within 6 = .ok (.iload_n 1, 1) := by decide +kernel
theorem dX12_within_7 : decode cX12_within 7 = .ok (.invokestatic 395, 3) := by decide +kernel
theorem dX12_within_10 : decode cX12_within 10 = .ok (.ifCond .eq 17, 3) := by decide +kernel
theorem dX12_within_13 : decode cX12_within 13 = .ok (.iload_n 2, 1) := by decide +kernel
theorem dX12_within_14 : decode cX12_within 14 = .ok (.ifCond .lt 13, 3) := by decide +kernel
theorem dX12_within_17 : decode cX12_within 17 = .ok (.iload_n 2, 1) := by decide +kernel
theorem dX12_within_18 : decode cX12_within 18 = .ok (.bipush 12, 2) := by decide +kernel
theorem dX12_within_20 : decode cX12_within 20 = .ok (.if_icmp .gt 7, 3) := by decide +kernel
theorem dX12_within_23 : decode cX12_within 23 = .ok (.iconst 1, 1) := by decide +kernel
theorem dX12_within_24 : decode cX12_within 24 = .ok (.goto 4, 3) := by decide +kernel
theorem dX12_within_27 : decode cX12_within 27 = .ok (.iconst 0, 1) := by decide +kernel
theorem dX12_within_28 : decode cX12_within 28 = .ok (.iconst 1, 1) := by decide +kernel
theorem dX12_within_29 : decode cX12_within 29 = .ok (.invokevirtual 155, 3) := by decide +kernel
theorem dX12_within_32 : decode cX12_within 32 = .ok (.ifCond .eq 16, 3) := by decide +kernel
theorem dX12_within_35 : decode cX12_within 35 = .ok (.aload_n 0, 1) := by decide +kernel
theorem dX12_within_36 : decode cX12_within 36 = .ok (.aload_n 0, 1) := by decide +kernel
theorem dX12_within_37 : decode cX12_within 37 = .ok (.iload_n 1, 1) := by decide +kernel
theorem dX12_within_38 : decode cX12_within 38 = .ok (.invokevirtual 398, 3) := by decide +kernel
theorem dX12_within_41 : decode cX12_within 41 = .ok (.iconst 2, 1) := by decide +kernel
theorem dX12_within_42 : decode cX12_within 42 = .ok (.invokevirtual 155, 3) := by decide +kernel
theorem dX12_within_45 : decode cX12_within 45 = .ok (.ifCond .ne 5, 3) := by decide +kernel
theorem dX12_within_48 : decode cX12_within 48 = .ok (.iconst 0, 1) := by decide +kernel
theorem dX12_within_49 : decode cX12_within 49 = .ok (.ireturn, 1) := by decide +kernel
theorem dX12_within_50 : decode cX12_within 50 = .ok (.aload_n 0, 1) := by decide +kernel
theorem dX12_within_51 : decode cX12_within 51 = .ok (.invokevirtual 369, 3) := by decide +kernel
theorem dX12_within_54 : decode cX12_within 54 = .ok (.aload_n 0, 1) := by decide +kernel
theorem dX12_within_55 : decode cX12_within 55 = .ok (.iload_n 1, 1) := by decide +kernel
theorem dX12_within_56 : decode cX12_within 56 = .ok (.iload_n 2, 1) := by decide +kernel
theorem dX12_within_57 : decode cX12_within 57 = .ok (.aload_n 0, 1) := by decide +kernel
theorem dX12_within_58 : decode cX12_within 58 = .ok (.getfield 125, 3) := by decide +kernel
theorem dX12_within_61 : decode cX12_within 61 = .ok (.invokevirtual 422, 3) := by decide +kernel
theorem dX12_within_64 : decode cX12_within 64 = .ok (.aload_n 0, 1) := by decide +kernel
theorem dX12_within_65 : decode cX12_within 65 = .ok (.getfield 109, 3) := by decide +kernel
theorem dX12_within_68 : decode cX12_within 68 = .ok (.aload_n 0, 1) := by decide +kernel
theorem dX12_within_69 : decode cX12_within 69 = .ok (.getfield 125, 3) := by decide +kernel
theorem dX12_within_72 : decode cX12_within 72 = .ok (.iload_n 2, 1) := by decide +kernel
theorem dX12_within_73 : decode cX12_within 73 = .ok (.laload, 1) := by decide +kernel
theorem dX12_within_74 : decode cX12_within 74 = .ok (.invokestatic 426, 3) := by decide +kernel
theorem dX12_within_77 : decode cX12_within 77 = .ok (.aload_n 0, 1) := by decide +kernel
theorem dX12_within_78 : decode cX12_within 78 = .ok (.iload_n 2, 1) := by decide +kernel
theorem dX12_within_79 : decode cX12_within 79 = .ok (.invokevirtual 412, 3) := by decide +kernel
theorem dX12_within_82 : decode cX12_within 82 = .ok (.ireturn, 1) := by decide +kernel
theorem dX12_addProduct_0 : decode cX12_addProduct 0 = .ok (.iconst 0, 1) := by decide +kernel
theorem dX12_addProduct_1 : decode cX12_addProduct 1 = .ok (.istore_n 3, 1) := by decide +kernel
theorem dX12_addProduct_2 : decode cX12_addProduct 2 = .ok (.iload_n 3, 1) := by decide +kernel
theorem dX12_addProduct_3 : decode cX12_addProduct 3 = .ok (.bipush 12, 2) := by decide +kernel
theorem dX12_addProduct_5 : decode cX12_addProduct 5 = .ok (.if_icmp .ge 79, 3) := by decide +kernel
theorem dX12_addProduct_8 : decode cX12_addProduct 8 = .ok (.lconst 0, 1) := by decide +kernel
theorem dX12_addProduct_9 : decode cX12_addProduct 9 = .ok (.lstore 4, 2) := by decide +kernel
theorem dX12_addProduct_11 : decode cX12_addProduct 11 = .ok (.iconst 0, 1) := by decide +kernel
theorem dX12_addProduct_12 : decode cX12_addProduct 12 = .ok (.istore 6, 2) := by decide +kernel
theorem dX12_addProduct_14 : decode cX12_addProduct 14 = .ok (.iload_n 3, 1) := by decide +kernel
theorem dX12_addProduct_15 : decode cX12_addProduct 15 = .ok (.iload 6, 2) := by decide +kernel
theorem dX12_addProduct_17 : decode cX12_addProduct 17 = .ok (.iadd, 1) := by decide +kernel
theorem dX12_addProduct_18 : decode cX12_addProduct 18 = .ok (.bipush 12, 2) := by decide +kernel
theorem dX12_addProduct_20 : decode cX12_addProduct 20 = .ok (.if_icmp .ge 58, 3) := by decide +kernel
theorem dX12_addProduct_23 : decode cX12_addProduct 23 = .ok (.lload 4, 2) := by decide +kernel
theorem dX12_addProduct_25 : decode cX12_addProduct 25 = .ok (.aload_n 0, 1) := by decide +kernel
theorem dX12_addProduct_26 : decode cX12_addProduct 26 = .ok (.getfield 143, 3) := by decide +kernel
theorem dX12_addProduct_29 : decode cX12_addProduct 29 = .ok (.iload_n 3, 1) := by decide +kernel
theorem dX12_addProduct_30 : decode cX12_addProduct 30 = .ok (.iload 6, 2) := by decide +kernel
theorem dX12_addProduct_32 : decode cX12_addProduct 32 = .ok (.iadd, 1) := by decide +kernel
theorem dX12_addProduct_33 : decode cX12_addProduct 33 = .ok (.iaload, 1) := by decide +kernel
theorem dX12_addProduct_34 : decode cX12_addProduct 34 = .ok (.i2l, 1) := by decide +kernel
theorem dX12_addProduct_35 : decode cX12_addProduct 35 = .ok (.aload_n 1, 1) := by decide +kernel
theorem dX12_addProduct_36 : decode cX12_addProduct 36 = .ok (.iload_n 3, 1) := by decide +kernel
theorem dX12_addProduct_37 : decode cX12_addProduct 37 = .ok (.iaload, 1) := by decide +kernel
theorem dX12_addProduct_38 : decode cX12_addProduct 38 = .ok (.i2l, 1) := by decide +kernel
theorem dX12_addProduct_39 : decode cX12_addProduct 39 = .ok (.aload_n 2, 1) := by decide +kernel
theorem dX12_addProduct_40 : decode cX12_addProduct 40 = .ok (.iload 6, 2) := by decide +kernel
theorem dX12_addProduct_42 : decode cX12_addProduct 42 = .ok (.iaload, 1) := by decide +kernel
theorem dX12_addProduct_43 : decode cX12_addProduct 43 = .ok (.i2l, 1) := by decide +kernel
theorem dX12_addProduct_44 : decode cX12_addProduct 44 = .ok (.lmul, 1) := by decide +kernel
theorem dX12_addProduct_45 : decode cX12_addProduct 45 = .ok (.ladd, 1) := by decide +kernel
theorem dX12_addProduct_46 : decode cX12_addProduct 46 = .ok (.ladd, 1) := by decide +kernel
theorem dX12_addProduct_47 : decode cX12_addProduct 47 = .ok (.lstore 4, 2) := by decide +kernel
theorem dX12_addProduct_49 : decode cX12_addProduct 49 = .ok (.aload_n 0, 1) := by decide +kernel
theorem dX12_addProduct_50 : decode cX12_addProduct 50 = .ok (.getfield 143, 3) := by decide +kernel
theorem dX12_addProduct_53 : decode cX12_addProduct 53 = .ok (.iload_n 3, 1) := by decide +kernel
theorem dX12_addProduct_54 : decode cX12_addProduct 54 = .ok (.iload 6, 2) := by decide +kernel
theorem dX12_addProduct_56 : decode cX12_addProduct 56 = .ok (.iadd, 1) := by decide +kernel
theorem dX12_addProduct_57 : decode cX12_addProduct 57 = .ok (.lload 4, 2) := by decide +kernel
theorem dX12_addProduct_59 : decode cX12_addProduct 59 = .ok (.ldc2_w 357, 3) := by decide +kernel
theorem dX12_addProduct_62 : decode cX12_addProduct 62 = .ok (.land, 1) := by decide +kernel
theorem dX12_addProduct_63 : decode cX12_addProduct 63 = .ok (.l2i, 1) := by decide +kernel
theorem dX12_addProduct_64 : decode cX12_addProduct 64 = .ok (.iastore, 1) := by decide +kernel
theorem dX12_addProduct_65 : decode cX12_addProduct 65 = .ok (.lload 4, 2) := by decide +kernel
theorem dX12_addProduct_67 : decode cX12_addProduct 67 = .ok (.bipush 28, 2) := by decide +kernel
theorem dX12_addProduct_69 : decode cX12_addProduct 69 = .ok (.lshr, 1) := by decide +kernel
theorem dX12_addProduct_70 : decode cX12_addProduct 70 = .ok (.lstore 4, 2) := by decide +kernel
theorem dX12_addProduct_72 : decode cX12_addProduct 72 = .ok (.iinc 6 1, 3) := by decide +kernel
theorem dX12_addProduct_75 : decode cX12_addProduct 75 = .ok (.goto (-61), 3) := by decide +kernel
theorem dX12_addProduct_78 : decode cX12_addProduct 78 = .ok (.iinc 3 1, 3) := by decide +kernel
theorem dX12_addProduct_81 : decode cX12_addProduct 81 = .ok (.goto (-79), 3) := by decide +kernel
theorem dX12_addProduct_84 : decode cX12_addProduct 84 = .ok (.return_, 1) := by decide +kernel
theorem dX12_race_0 : decode cX12_race 0 = .ok (.aload_n 0, 1) := by decide +kernel
theorem dX12_race_1 : decode cX12_race 1 = .ok (.iconst 0, 1) := by decide +kernel
theorem dX12_race_2 : decode cX12_race 2 = .ok (.putfield 1, 3) := by decide +kernel
theorem dX12_race_5 : decode cX12_race 5 = .ok (.aload_n 0, 1) := by decide +kernel
theorem dX12_race_6 : decode cX12_race 6 = .ok (.iload_n 1, 1) := by decide +kernel
theorem dX12_race_7 : decode cX12_race 7 = .ok (.invokestatic 395, 3) := by decide +kernel
theorem dX12_race_10 : decode cX12_race 10 = .ok (.ifCond .eq 14, 3) := by decide +kernel
theorem dX12_race_13 : decode cX12_race 13 = .ok (.iload_n 2, 1) := by decide +kernel
theorem dX12_race_14 : decode cX12_race 14 = .ok (.invokestatic 395, 3) := by decide +kernel
theorem dX12_race_17 : decode cX12_race 17 = .ok (.ifCond .eq 7, 3) := by decide +kernel
theorem dX12_race_20 : decode cX12_race 20 = .ok (.iconst 1, 1) := by decide +kernel
theorem dX12_race_21 : decode cX12_race 21 = .ok (.goto 4, 3) := by decide +kernel
theorem dX12_race_24 : decode cX12_race 24 = .ok (.iconst 0, 1) := by decide +kernel
theorem dX12_race_25 : decode cX12_race 25 = .ok (.iconst 1, 1) := by decide +kernel
theorem dX12_race_26 : decode cX12_race 26 = .ok (.invokevirtual 155, 3) := by decide +kernel
theorem dX12_race_29 : decode cX12_race 29 = .ok (.ifCond .eq 32, 3) := by decide +kernel
theorem dX12_race_32 : decode cX12_race 32 = .ok (.aload_n 0, 1) := by decide +kernel
theorem dX12_race_33 : decode cX12_race 33 = .ok (.aload_n 0, 1) := by decide +kernel
theorem dX12_race_34 : decode cX12_race 34 = .ok (.iload_n 1, 1) := by decide +kernel
theorem dX12_race_35 : decode cX12_race 35 = .ok (.invokevirtual 398, 3) := by decide +kernel
theorem dX12_race_38 : decode cX12_race 38 = .ok (.ifCond .eq 15, 3) := by decide +kernel
theorem dX12_race_41 : decode cX12_race 41 = .ok (.aload_n 0, 1) := by decide +kernel
theorem dX12_race_42 : decode cX12_race 42 = .ok (.iload_n 2, 1) := by decide +kernel
theorem dX12_race_43 : decode cX12_race 43 = .ok (.invokevirtual 398, 3) := by decide +kernel
theorem dX12_race_46 : decode cX12_race 46 = .ok (.ifCond .eq 7, 3) := by decide +kernel
theorem dX12_race_49 : decode cX12_race 49 = .ok (.iconst 1, 1) := by decide +kernel
theorem dX12_race_50 : decode cX12_race 50 = .ok (.goto 4, 3) := by decide +kernel
theorem dX12_race_53 : decode cX12_race 53 = .ok (.iconst 0, 1) := by decide +kernel
theorem dX12_race_54 : decode cX12_race 54 = .ok (.iconst 2, 1) := by decide +kernel
theorem dX12_race_55 : decode cX12_race 55 = .ok (.invokevirtual 155, 3) := by decide +kernel
theorem dX12_race_58 : decode cX12_race 58 = .ok (.ifCond .ne 5, 3) := by decide +kernel
theorem dX12_race_61 : decode cX12_race 61 = .ok (.iconst 0, 1) := by decide +kernel
theorem dX12_race_62 : decode cX12_race 62 = .ok (.ireturn, 1) := by decide +kernel
theorem dX12_race_63 : decode cX12_race 63 = .ok (.aload_n 0, 1) := by decide +kernel
theorem dX12_race_64 : decode cX12_race 64 = .ok (.invokevirtual 369, 3) := by decide +kernel
theorem dX12_race_67 : decode cX12_race 67 = .ok (.aload_n 0, 1) := by decide +kernel
theorem dX12_race_68 : decode cX12_race 68 = .ok (.iload_n 1, 1) := by decide +kernel
theorem dX12_race_69 : decode cX12_race 69 = .ok (.bipush 12, 2) := by decide +kernel
theorem dX12_race_71 : decode cX12_race 71 = .ok (.aload_n 0, 1) := by decide +kernel
theorem dX12_race_72 : decode cX12_race 72 = .ok (.getfield 125, 3) := by decide +kernel
theorem dX12_race_75 : decode cX12_race 75 = .ok (.invokevirtual 422, 3) := by decide +kernel
theorem dX12_race_78 : decode cX12_race 78 = .ok (.aload_n 0, 1) := by decide +kernel
theorem dX12_race_79 : decode cX12_race 79 = .ok (.iload_n 2, 1) := by decide +kernel
theorem dX12_race_80 : decode cX12_race 80 = .ok (.bipush 12, 2) := by decide +kernel
theorem dX12_race_82 : decode cX12_race 82 = .ok (.aload_n 0, 1) := by decide +kernel
theorem dX12_race_83 : decode cX12_race 83 = .ok (.getfield 128, 3) := by decide +kernel
theorem dX12_race_86 : decode cX12_race 86 = .ok (.invokevirtual 422, 3) := by decide +kernel
theorem dX12_race_89 : decode cX12_race 89 = .ok (.aload_n 0, 1) := by decide +kernel
theorem dX12_race_90 : decode cX12_race 90 = .ok (.aload_n 0, 1) := by decide +kernel
theorem dX12_race_91 : decode cX12_race 91 = .ok (.getfield 125, 3) := by decide +kernel
theorem dX12_race_94 : decode cX12_race 94 = .ok (.bipush 12, 2) := by decide +kernel
theorem dX12_race_96 : decode cX12_race 96 = .ok (.laload, 1) := by decide +kernel
theorem dX12_race_97 : decode cX12_race 97 = .ok (.bipush 12, 2) := by decide +kernel
theorem dX12_race_99 : decode cX12_race 99 = .ok (.invokestatic 430, 3) := by decide +kernel
theorem dX12_race_102 : decode cX12_race 102 = .ok (.lcmp, 1) := by decide +kernel
theorem dX12_race_103 : decode cX12_race 103 = .ok (.ifCond .ne 23, 3) := by decide +kernel
theorem dX12_race_106 : decode cX12_race 106 = .ok (.aload_n 0, 1) := by decide +kernel
theorem dX12_race_107 : decode cX12_race 107 = .ok (.getfield 128, 3) := by decide +kernel
theorem dX12_race_110 : decode cX12_race 110 = .ok (.bipush 12, 2) := by decide +kernel
theorem dX12_race_112 : decode cX12_race 112 = .ok (.laload, 1) := by decide +kernel
theorem dX12_race_113 : decode cX12_race 113 = .ok (.bipush 12, 2) := by decide +kernel
theorem dX12_race_115 : decode cX12_race 115 = .ok (.invokestatic 430, 3) := by decide +kernel
theorem dX12_race_118 : decode cX12_race 118 = .ok (.lcmp, 1) := by decide +kernel
theorem dX12_race_119 : decode cX12_race 119 = .ok (.ifCond .ne 7, 3) := by decide +kernel
theorem dX12_race_122 : decode cX12_race 122 = .ok (.iconst 1, 1) := by decide +kernel
theorem dX12_race_123 : decode cX12_race 123 = .ok (.goto 4, 3) := by decide +kernel
theorem dX12_race_126 : decode cX12_race 126 = .ok (.iconst 0, 1) := by decide +kernel
theorem dX12_race_127 : decode cX12_race 127 = .ok (.iconst 2, 1) := by decide +kernel
theorem dX12_race_128 : decode cX12_race 128 = .ok (.invokevirtual 155, 3) := by decide +kernel
theorem dX12_race_131 : decode cX12_race 131 = .ok (.ifCond .eq 24, 3) := by decide +kernel
theorem dX12_race_134 : decode cX12_race 134 = .ok (.aload_n 0, 1) := by decide +kernel
theorem dX12_race_135 : decode cX12_race 135 = .ok (.iload_n 1, 1) := by decide +kernel
theorem dX12_race_136 : decode cX12_race 136 = .ok (.ifCond .ne 7, 3) := by decide +kernel
theorem dX12_race_139 : decode cX12_race 139 = .ok (.iload_n 2, 1) := by decide +kernel
theorem dX12_race_140 : decode cX12_race 140 = .ok (.ifCond .eq 7, 3) := by decide +kernel
theorem dX12_race_143 : decode cX12_race 143 = .ok (.iconst 1, 1) := by decide +kernel
theorem dX12_race_144 : decode cX12_race 144 = .ok (.goto 4, 3) := by decide +kernel
theorem dX12_race_147 : decode cX12_race 147 = .ok (.iconst 0, 1) := by decide +kernel
theorem dX12_race_148 : decode cX12_race 148 = .ok (.iconst 3, 1) := by decide +kernel
theorem dX12_race_149 : decode cX12_race 149 = .ok (.invokevirtual 155, 3) := by decide +kernel
theorem dX12_race_152 : decode cX12_race 152 = .ok (.ifCond .ne 5, 3) := by decide +kernel
theorem dX12_race_155 : decode cX12_race 155 = .ok (.iconst 0, 1) := by decide +kernel
theorem dX12_race_156 : decode cX12_race 156 = .ok (.ireturn, 1) := by decide +kernel
theorem dX12_race_157 : decode cX12_race 157 = .ok (.iconst 0, 1) := by decide +kernel
theorem dX12_race_158 : decode cX12_race 158 = .ok (.istore_n 3, 1) := by decide +kernel
theorem dX12_race_159 : decode cX12_race 159 = .ok (.iload_n 3, 1) := by decide +kernel
theorem dX12_race_160 : decode cX12_race 160 = .ok (.bipush 12, 2) := by decide +kernel
theorem dX12_race_162 : decode cX12_race 162 = .ok (.if_icmp .ge 16, 3) := by decide +kernel
theorem dX12_race_165 : decode cX12_race 165 = .ok (.aload_n 0, 1) := by decide +kernel
theorem dX12_race_166 : decode cX12_race 166 = .ok (.getfield 143, 3) := by decide +kernel
theorem dX12_race_169 : decode cX12_race 169 = .ok (.iload_n 3, 1) := by decide +kernel
theorem dX12_race_170 : decode cX12_race 170 = .ok (.iconst 0, 1) := by decide +kernel
theorem dX12_race_171 : decode cX12_race 171 = .ok (.iastore, 1) := by decide +kernel
theorem dX12_race_172 : decode cX12_race 172 = .ok (.iinc 3 1, 3) := by decide +kernel
theorem dX12_race_175 : decode cX12_race 175 = .ok (.goto (-16), 3) := by decide +kernel
theorem dX12_race_178 : decode cX12_race 178 = .ok (.iconst 1, 1) := by decide +kernel
theorem dX12_race_179 : decode cX12_race 179 = .ok (.istore_n 3, 1) := by decide +kernel
theorem dX12_race_180 : decode cX12_race 180 = .ok (.iload_n 3, 1) := by decide +kernel
theorem dX12_race_181 : decode cX12_race 181 = .ok (.bipush 12, 2) := by decide +kernel
theorem dX12_race_183 : decode cX12_race 183 = .ok (.if_icmp .gt 96, 3) := by decide +kernel
theorem dX12_race_186 : decode cX12_race 186 = .ok (.aload_n 0, 1) := by decide +kernel
theorem dX12_race_187 : decode cX12_race 187 = .ok (.getfield 137, 3) := by decide +kernel
theorem dX12_race_190 : decode cX12_race 190 = .ok (.aload_n 0, 1) := by decide +kernel
theorem dX12_race_191 : decode cX12_race 191 = .ok (.getfield 125, 3) := by decide +kernel
theorem dX12_race_194 : decode cX12_race 194 = .ok (.iload_n 3, 1) := by decide +kernel
theorem dX12_race_195 : decode cX12_race 195 = .ok (.laload, 1) := by decide +kernel
theorem dX12_race_196 : decode cX12_race 196 = .ok (.ldc2_w 420, 3) := by decide +kernel
theorem dX12_race_199 : decode cX12_race 199 = .ok (.aload_n 0, 1) := by decide +kernel
theorem dX12_race_200 : decode cX12_race 200 = .ok (.getfield 125, 3) := by decide +kernel
theorem dX12_race_203 : decode cX12_race 203 = .ok (.iload_n 3, 1) := by decide +kernel
theorem dX12_race_204 : decode cX12_race 204 = .ok (.iconst 1, 1) := by decide +kernel
theorem dX12_race_205 : decode cX12_race 205 = .ok (.isub, 1) := by decide +kernel
theorem dX12_race_206 : decode cX12_race 206 = .ok (.laload, 1) := by decide +kernel
theorem dX12_race_207 : decode cX12_race 207 = .ok (.lmul, 1) := by decide +kernel
theorem dX12_race_208 : decode cX12_race 208 = .ok (.lsub, 1) := by decide +kernel
theorem dX12_race_209 : decode cX12_race 209 = .ok (.invokestatic 426, 3) := by decide +kernel
theorem dX12_race_212 : decode cX12_race 212 = .ok (.aload_n 0, 1) := by decide +kernel
theorem dX12_race_213 : decode cX12_race 213 = .ok (.getfield 140, 3) := by decide +kernel
theorem dX12_race_216 : decode cX12_race 216 = .ok (.iload_n 3, 1) := by decide +kernel
theorem dX12_race_217 : decode cX12_race 217 = .ok (.iconst 1, 1) := by decide +kernel
theorem dX12_race_218 : decode cX12_race 218 = .ok (.isub, 1) := by decide +kernel
theorem dX12_race_219 : decode cX12_race 219 = .ok (.invokestatic 430, 3) := by decide +kernel
theorem dX12_race_222 : decode cX12_race 222 = .ok (.aload_n 0, 1) := by decide +kernel
theorem dX12_race_223 : decode cX12_race 223 = .ok (.getfield 128, 3) := by decide +kernel
theorem dX12_race_226 : decode cX12_race 226 = .ok (.iload_n 3, 1) := by decide +kernel
theorem dX12_race_227 : decode cX12_race 227 = .ok (.iconst 1, 1) := by decide +kernel
theorem dX12_race_228 : decode cX12_race 228 = .ok (.isub, 1) := by decide +kernel
theorem dX12_race_229 : decode cX12_race 229 = .ok (.laload, 1) := by decide +kernel
theorem dX12_race_230 : decode cX12_race 230 = .ok (.lsub, 1) := by decide +kernel
theorem dX12_race_231 : decode cX12_race 231 = .ok (.invokestatic 426, 3) := by decide +kernel
theorem dX12_race_234 : decode cX12_race 234 = .ok (.iconst 2, 1) := by decide +kernel
theorem dX12_race_235 : decode cX12_race 235 = .ok (.iload_n 3, 1) := by decide +kernel
theorem dX12_race_236 : decode cX12_race 236 = .ok (.imul, 1) := by decide +kernel
theorem dX12_race_237 : decode cX12_race 237 = .ok (.istore 4, 2) := by decide +kernel
theorem dX12_race_239 : decode cX12_race 239 = .ok (.iload 4, 2) := by decide +kernel
theorem dX12_race_241 : decode cX12_race 241 = .ok (.bipush 24, 2) := by decide +kernel
theorem dX12_race_243 : decode cX12_race 243 = .ok (.if_icmp .ge 18, 3) := by decide +kernel
theorem dX12_race_246 : decode cX12_race 246 = .ok (.aload_n 0, 1) := by decide +kernel
theorem dX12_race_247 : decode cX12_race 247 = .ok (.getfield 140, 3) := by decide +kernel
theorem dX12_race_250 : decode cX12_race 250 = .ok (.bipush 36, 2) := by decide +kernel
theorem dX12_race_252 : decode cX12_race 252 = .ok (.invokestatic 353, 3) := by decide +kernel
theorem dX12_race_255 : decode cX12_race 255 = .ok (.iinc 4 1, 3) := by decide +kernel
theorem dX12_race_258 : decode cX12_race 258 = .ok (.goto (-19), 3) := by decide +kernel
theorem dX12_race_261 : decode cX12_race 261 = .ok (.aload_n 0, 1) := by decide +kernel
theorem dX12_race_262 : decode cX12_race 262 = .ok (.aload_n 0, 1) := by decide +kernel
theorem dX12_race_263 : decode cX12_race 263 = .ok (.getfield 137, 3) := by decide +kernel
theorem dX12_race_266 : decode cX12_race 266 = .ok (.aload_n 0, 1) := by decide +kernel
theorem dX12_race_267 : decode cX12_race 267 = .ok (.getfield 140, 3) := by decide +kernel
theorem dX12_race_270 : decode cX12_race 270 = .ok (.invokevirtual 434, 3) := by decide +kernel
theorem dX12_race_273 : decode cX12_race 273 = .ok (.iinc 3 1, 3) := by decide +kernel
theorem dX12_race_276 : decode cX12_race 276 = .ok (.goto (-96), 3) := by decide +kernel
theorem dX12_race_279 : decode cX12_race 279 = .ok (.iconst 0, 1) := by decide +kernel
theorem dX12_race_280 : decode cX12_race 280 = .ok (.istore_n 3, 1) := by decide +kernel
theorem dX12_race_281 : decode cX12_race 281 = .ok (.iload_n 3, 1) := by decide +kernel
theorem dX12_race_282 : decode cX12_race 282 = .ok (.bipush 12, 2) := by decide +kernel
theorem dX12_race_284 : decode cX12_race 284 = .ok (.if_icmp .ge 21, 3) := by decide +kernel
theorem dX12_race_287 : decode cX12_race 287 = .ok (.aload_n 0, 1) := by decide +kernel
theorem dX12_race_288 : decode cX12_race 288 = .ok (.getfield 109, 3) := by decide +kernel
theorem dX12_race_291 : decode cX12_race 291 = .ok (.iload_n 3, 1) := by decide +kernel
theorem dX12_race_292 : decode cX12_race 292 = .ok (.aload_n 0, 1) := by decide +kernel
theorem dX12_race_293 : decode cX12_race 293 = .ok (.getfield 143, 3) := by decide +kernel
theorem dX12_race_296 : decode cX12_race 296 = .ok (.iload_n 3, 1) := by decide +kernel
theorem dX12_race_297 : decode cX12_race 297 = .ok (.iaload, 1) := by decide +kernel
theorem dX12_race_298 : decode cX12_race 298 = .ok (.iastore, 1) := by decide +kernel
theorem dX12_race_299 : decode cX12_race 299 = .ok (.iinc 3 1, 3) := by decide +kernel
theorem dX12_race_302 : decode cX12_race 302 = .ok (.goto (-21), 3) := by decide +kernel
theorem dX12_race_305 : decode cX12_race 305 = .ok (.iload_n 1, 1) := by decide +kernel
theorem dX12_race_306 : decode cX12_race 306 = .ok (.ifCond .ne 17, 3) := by decide +kernel
theorem dX12_race_309 : decode cX12_race 309 = .ok (.aload_n 0, 1) := by decide +kernel
theorem dX12_race_310 : decode cX12_race 310 = .ok (.getfield 109, 3) := by decide +kernel
theorem dX12_race_313 : decode cX12_race 313 = .ok (.lconst 1, 1) := by decide +kernel
theorem dX12_race_314 : decode cX12_race 314 = .ok (.invokestatic 426, 3) := by decide +kernel
theorem dX12_race_317 : decode cX12_race 317 = .ok (.aload_n 0, 1) := by decide +kernel
theorem dX12_race_318 : decode cX12_race 318 = .ok (.iconst 0, 1) := by decide +kernel
theorem dX12_race_319 : decode cX12_race 319 = .ok (.invokevirtual 412, 3) := by decide +kernel
theorem dX12_race_322 : decode cX12_race 322 = .ok (.ireturn, 1) := by decide +kernel
theorem dX12_race_323 : decode cX12_race 323 = .ok (.aload_n 0, 1) := by decide +kernel
theorem dX12_race_324 : decode cX12_race 324 = .ok (.bipush 23, 2) := by decide +kernel
theorem dX12_race_326 : decode cX12_race 326 = .ok (.invokevirtual 412, 3) := by decide +kernel
theorem dX12_race_329 : decode cX12_race 329 = .ok (.ireturn, 1) := by decide +kernel
