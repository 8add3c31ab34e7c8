theorem dX12_position_274 : decode cX12_position 274 = .ok (.getfield 13, 3) := by decide +kernel
theorem dX12_position_277 : decode cX12_position 277 = .ok (.bipush 26, 2) := by decide +kernel
theorem dX12_position_279 : decode cX12_position 279 = .ok (.bipush 15, 2) := by decide +kernel
theorem dX12_position_281 : decode cX12_position 281 = .ok (.iload 4, 2) := by decide +kernel
theorem dX12_position_283 : decode cX12_position 283 = .ok (.isub, 1) := by decide +kernel
theorem dX12_position_284 : decode cX12_position 284 = .ok (.iastore, 1) := by decide +kernel
theorem dX12_position_285 : decode cX12_position 285 = .ok (.aload_n 0, 1) := by decide +kernel
theorem dX12_position_286 : decode cX12_position 286 = .ok (.iload_n 2, 1) := by decide +kernel
theorem dX12_position_287 : decode cX12_position 287 = .ok (.putfield 149, 3) := by decide +kernel
theorem dX12_position_290 : decode cX12_position 290 = .ok (.aload_n 0, 1) := by decide +kernel
theorem dX12_position_291 : decode cX12_position 291 = .ok (.iconst 0, 1) := by decide +kernel
theorem dX12_position_292 : decode cX12_position 292 = .ok (.putfield 152, 3) := by decide +kernel
theorem dX12_position_295 : decode cX12_position 295 = .ok (.iconst 0, 1) := by decide +kernel
theorem dX12_position_296 : decode cX12_position 296 = .ok (.ireturn, 1) := by decide +kernel
theorem dX12_stacks_0 : decode cX12_stacks 0 = .ok (.aload_n 0, 1) := by decide +kernel
theorem dX12_stacks_1 : decode cX12_stacks 1 = .ok (.invokevirtual 310, 3) := by decide +kernel
theorem dX12_stacks_4 : decode cX12_stacks 4 = .ok (.ifCond .eq 12, 3) := by decide +kernel
theorem dX12_stacks_7 : decode cX12_stacks 7 = .ok (.aload_n 0, 1) := by decide +kernel
theorem dX12_stacks_8 : decode cX12_stacks 8 = .ok (.bipush 59, 2) := by decide +kernel
theorem dX12_stacks_10 : decode cX12_stacks 10 = .ok (.invokevirtual 313, 3) := by decide +kernel
theorem dX12_stacks_13 : decode cX12_stacks 13 = .ok (.ifCond .eq 4, 3) := by decide +kernel
theorem dX12_stacks_16 : decode cX12_stacks 16 = .ok (.return_, 1) := by decide +kernel
theorem dX12_stacks_17 : decode cX12_stacks 17 = .ok (.iconst 0, 1) := by decide +kernel
theorem dX12_stacks_18 : decode cX12_stacks 18 = .ok (.istore_n 2, 1) := by decide +kernel
theorem dX12_stacks_19 : decode cX12_stacks 19 = .ok (.iconst 1, 1) := by decide +kernel
theorem dX12_stacks_20 : decode cX12_stacks 20 = .ok (.istore_n 3, 1) := by decide +kernel
theorem dX12_stacks_21 : decode cX12_stacks 21 = .ok (.iload_n 3, 1) := by decide +kernel
theorem dX12_stacks_22 : decode cX12_stacks 22 = .ok (.ifCond .eq 192, 3) := by decide +kernel
theorem dX12_stacks_25 : decode cX12_stacks 25 = .ok (.aload_n 0, 1) := by decide +kernel
theorem dX12_stacks_26 : decode cX12_stacks 26 = .ok (.iconst 1, 1) := by decide +kernel
theorem dX12_stacks_27 : decode cX12_stacks 27 = .ok (.bipush 25, 2) := by decide +kernel
theorem dX12_stacks_29 : decode cX12_stacks 29 = .ok (.invokevirtual 331, 3) := by decide +kernel
theorem dX12_stacks_32 : decode cX12_stacks 32 = .ok (.aload_n 0, 1) := by decide +kernel
theorem dX12_stacks_33 : decode cX12_stacks 33 = .ok (.getfield 296, 3) := by decide +kernel
theorem dX12_stacks_36 : decode cX12_stacks 36 = .ok (.istore 4, 2) := by decide +kernel
theorem dX12_stacks_38 : decode cX12_stacks 38 = .ok (.aload_n 0, 1) := by decide +kernel
theorem dX12_stacks_39 : decode cX12_stacks 39 = .ok (.invokevirtual 310, 3) := by decide +kernel
theorem dX12_stacks_42 : decode cX12_stacks 42 = .ok (.ifCond .eq 27, 3) := by decide +kernel
theorem dX12_stacks_45 : decode cX12_stacks 45 = .ok (.aload_n 0, 1) := by decide +kernel
theorem dX12_stacks_46 : decode cX12_stacks 46 = .ok (.getfield 63, 3) := by decide +kernel
theorem dX12_stacks_49 : decode cX12_stacks 49 = .ok (.bipush 26, 2) := by decide +kernel
theorem dX12_stacks_51 : decode cX12_stacks 51 = .ok (.iload_n 1, 1) := by decide +kernel
theorem dX12_stacks_52 : decode cX12_stacks 52 = .ok (.imul, 1) := by decide +kernel
theorem dX12_stacks_53 : decode cX12_stacks 53 = .ok (.iload 4, 2) := by decide +kernel
theorem dX12_stacks_55 : decode cX12_stacks 55 = .ok (.iadd, 1) := by decide +kernel
theorem dX12_stacks_56 : decode cX12_stacks 56 = .ok (.iaload, 1) := by decide +kernel
theorem dX12_stacks_57 : decode cX12_stacks 57 = .ok (.ifCond .le 12, 3) := by decide +kernel
theorem dX12_stacks_60 : decode cX12_stacks 60 = .ok (.aload_n 0, 1) := by decide +kernel
theorem dX12_stacks_61 : decode cX12_stacks 61 = .ok (.iconst 3, 1) := by decide +kernel
theorem dX12_stacks_62 : decode cX12_stacks 62 = .ok (.aload_n 0, 1) := by decide +kernel
theorem dX12_stacks_63 : decode cX12_stacks 63 = .ok (.getfield 293, 3) := by decide +kernel
theorem dX12_stacks_66 : decode cX12_stacks 66 = .ok (.invokevirtual 319, 3) := by decide +kernel
theorem dX12_stacks_69 : decode cX12_stacks 69 = .ok (.aload_n 0, 1) := by decide +kernel
theorem dX12_stacks_70 : decode cX12_stacks 70 = .ok (.invokevirtual 310, 3) := by decide +kernel
theorem dX12_stacks_73 : decode cX12_stacks 73 = .ok (.ifCond .eq 37, 3) := by decide +kernel
theorem dX12_stacks_76 : decode cX12_stacks 76 = .ok (.iload_n 1, 1) := by decide +kernel
theorem dX12_stacks_77 : decode cX12_stacks 77 = .ok (.iconst 1, 1) := by decide +kernel
theorem dX12_stacks_78 : decode cX12_stacks 78 = .ok (.if_icmp .ne 32, 3) := by decide +kernel
theorem dX12_stacks_81 : decode cX12_stacks 81 = .ok (.iload 4, 2) := by decide +kernel
theorem dX12_stacks_83 : decode cX12_stacks 83 = .ok (.bipush 25, 2) := by decide +kernel
theorem dX12_stacks_85 : decode cX12_stacks 85 = .ok (.if_icmp .ge 25, 3) := by decide +kernel
theorem dX12_stacks_88 : decode cX12_stacks 88 = .ok (.aload_n 0, 1) := by decide +kernel
theorem dX12_stacks_89 : decode cX12_stacks 89 = .ok (.getfield 63, 3) := by decide +kernel
theorem dX12_stacks_92 : decode cX12_stacks 92 = .ok (.bipush 25, 2) := by decide +kernel
theorem dX12_stacks_94 : decode cX12_stacks 94 = .ok (.iload 4, 2) := by decide +kernel
theorem dX12_stacks_96 : decode cX12_stacks 96 = .ok (.isub, 1) := by decide +kernel
theorem dX12_stacks_97 : decode cX12_stacks 97 = .ok (.iaload, 1) := by decide +kernel
theorem dX12_stacks_98 : decode cX12_stacks 98 = .ok (.ifCond .le 12, 3) := by decide +kernel
theorem dX12_stacks_101 : decode cX12_stacks 101 = .ok (.aload_n 0, 1) := by decide +kernel
theorem dX12_stacks_102 : decode cX12_stacks 102 = .ok (.iconst 5, 1) := by decide +kernel
theorem dX12_stacks_103 : decode cX12_stacks 103 = .ok (.aload_n 0, 1) := by decide +kernel
theorem dX12_stacks_104 : decode cX12_stacks 104 = .ok (.getfield 293, 3) := by decide +kernel
theorem dX12_stacks_107 : decode cX12_stacks 107 = .ok (.invokevirtual 319, 3) := by decide +kernel
theorem dX12_stacks_110 : decode cX12_stacks 110 = .ok (.aload_n 0, 1) := by decide +kernel
theorem dX12_stacks_111 : decode cX12_stacks 111 = .ok (.invokevirtual 310, 3) := by decide +kernel
theorem dX12_stacks_114 : decode cX12_stacks 114 = .ok (.ifCond .eq 7, 3) := by decide +kernel
theorem dX12_stacks_117 : decode cX12_stacks 117 = .ok (.aload_n 0, 1) := by decide +kernel
theorem dX12_stacks_118 : decode cX12_stacks 118 = .ok (.invokevirtual 316, 3) := by decide +kernel
theorem dX12_stacks_121 : decode cX12_stacks 121 = .ok (.aload_n 0, 1) := by decide +kernel
theorem dX12_stacks_122 : decode cX12_stacks 122 = .ok (.bipush 58, 2) := by decide +kernel
theorem dX12_stacks_124 : decode cX12_stacks 124 = .ok (.invokevirtual 328, 3) := by decide +kernel
theorem dX12_stacks_127 : decode cX12_stacks 127 = .ok (.aload_n 0, 1) := by decide +kernel
theorem dX12_stacks_128 : decode cX12_stacks 128 = .ok (.iconst 1, 1) := by decide +kernel
theorem dX12_stacks_129 : decode cX12_stacks 129 = .ok (.bipush 15, 2) := by decide +kernel
theorem dX12_stacks_131 : decode cX12_stacks 131 = .ok (.invokevirtual 331, 3) := by decide +kernel
theorem dX12_stacks_134 : decode cX12_stacks 134 = .ok (.aload_n 0, 1) := by decide +kernel
theorem dX12_stacks_135 : decode cX12_stacks 135 = .ok (.invokevirtual 310, 3) := by decide +kernel
theorem dX12_stacks_138 : decode cX12_stacks 138 = .ok (.ifCond .eq 23, 3) := by decide +kernel
theorem dX12_stacks_141 : decode cX12_stacks 141 = .ok (.iload_n 2, 1) := by decide +kernel
theorem dX12_stacks_142 : decode cX12_stacks 142 = .ok (.aload_n 0, 1) := by decide +kernel
theorem dX12_stacks_143 : decode cX12_stacks 143 = .ok (.getfield 296, 3) := by decide +kernel
theorem dX12_stacks_146 : decode cX12_stacks 146 = .ok (.iadd, 1) := by decide +kernel
theorem dX12_stacks_147 : decode cX12_stacks 147 = .ok (.bipush 15, 2) := by decide +kernel
theorem dX12_stacks_149 : decode cX12_stacks 149 = .ok (.if_icmp .le 12, 3) := by decide +kernel
theorem dX12_stacks_152 : decode cX12_stacks 152 = .ok (.aload_n 0, 1) := by decide +kernel
theorem dX12_stacks_153 : decode cX12_stacks 153 = .ok (.iconst 4, 1) := by decide +kernel
theorem dX12_stacks_154 : decode cX12_stacks 154 = .ok (.aload_n 0, 1) := by decide +kernel
theorem dX12_stacks_155 : decode cX12_stacks 155 = .ok (.getfield 293, 3) := by decide +kernel
theorem dX12_stacks_158 : decode cX12_stacks 158 = .ok (.invokevirtual 319, 3) := by decide +kernel
theorem dX12_stacks_161 : decode cX12_stacks 161 = .ok (.aload_n 0, 1) := by decide +kernel
theorem dX12_stacks_162 : decode cX12_stacks 162 = .ok (.invokevirtual 310, 3) := by decide +kernel
theorem dX12_stacks_165 : decode cX12_stacks 165 = .ok (.ifCond .ne 4, 3) := by decide +kernel
theorem dX12_stacks_168 : decode cX12_stacks 168 = .ok (.return_, 1) := by decide +kernel
theorem dX12_stacks_169 : decode cX12_stacks 169 = .ok (.iload_n 2, 1) := by decide +kernel
theorem dX12_stacks_170 : decode cX12_stacks 170 = .ok (.aload_n 0, 1) := by decide +kernel
theorem dX12_stacks_171 : decode cX12_stacks 171 = .ok (.getfield 296, 3) := by decide +kernel
theorem dX12_stacks_174 : decode cX12_stacks 174 = .ok (.iadd, 1) := by decide +kernel
theorem dX12_stacks_175 : decode cX12_stacks 175 = .ok (.istore_n 2, 1) := by decide +kernel
theorem dX12_stacks_176 : decode cX12_stacks 176 = .ok (.aload_n 0, 1) := by decide +kernel
theorem dX12_stacks_177 : decode cX12_stacks 177 = .ok (.getfield 63, 3) := by decide +kernel
theorem dX12_stacks_180 : decode cX12_stacks 180 = .ok (.bipush 26, 2) := by decide +kernel
theorem dX12_stacks_182 : decode cX12_stacks 182 = .ok (.iload_n 1, 1) := by decide +kernel
theorem dX12_stacks_183 : decode cX12_stacks 183 = .ok (.imul, 1) := by decide +kernel
theorem dX12_stacks_184 : decode cX12_stacks 184 = .ok (.iload 4, 2) := by decide +kernel
theorem dX12_stacks_186 : decode cX12_stacks 186 = .ok (.iadd, 1) := by decide +kernel
theorem dX12_stacks_187 : decode cX12_stacks 187 = .ok (.aload_n 0, 1) := by decide +kernel
theorem dX12_stacks_188 : decode cX12_stacks 188 = .ok (.getfield 296, 3) := by decide +kernel
theorem dX12_stacks_191 : decode cX12_stacks 191 = .ok (.iastore, 1) := by decide +kernel
theorem dX12_stacks_192 : decode cX12_stacks 192 = .ok (.aload_n 0, 1) := by decide +kernel
theorem dX12_stacks_193 : decode cX12_stacks 193 = .ok (.invokevirtual 316, 3) := by decide +kernel
theorem dX12_stacks_196 : decode cX12_stacks 196 = .ok (.aload_n 0, 1) := by decide +kernel
theorem dX12_stacks_197 : decode cX12_stacks 197 = .ok (.bipush 44, 2) := by decide +kernel
theorem dX12_stacks_199 : decode cX12_stacks 199 = .ok (.invokevirtual 313, 3) := by decide +kernel
theorem dX12_stacks_202 : decode cX12_stacks 202 = .ok (.istore_n 3, 1) := by decide +kernel
theorem dX12_stacks_203 : decode cX12_stacks 203 = .ok (.iload_n 3, 1) := by decide +kernel
theorem dX12_stacks_204 : decode cX12_stacks 204 = .ok (.ifCond .eq 7, 3) := by decide +kernel
theorem dX12_stacks_207 : decode cX12_stacks 207 = .ok (.aload_n 0, 1) := by decide +kernel
theorem dX12_stacks_208 : decode cX12_stacks 208 = .ok (.invokevirtual 316, 3) := by decide +kernel
theorem dX12_stacks_211 : decode cX12_stacks 211 = .ok (.goto (-190), 3) := by decide +kernel
theorem dX12_stacks_214 : decode cX12_stacks 214 = .ok (.return_, 1) := by decide +kernel
theorem dX12_sayMove_0 : decode cX12_sayMove 0 = .ok (.aload_n 0, 1) := by decide +kernel
theorem dX12_sayMove_1 : decode cX12_sayMove 1 = .ok (.getfield 302, 3) := by decide +kernel
theorem dX12_sayMove_4 : decode cX12_sayMove 4 = .ok (.iconst 3, 1) := by decide +kernel
theorem dX12_sayMove_5 : decode cX12_sayMove 5 = .ok (.if_icmp .ne 16, 3) := by decide +kernel
theorem dX12_sayMove_8 : decode cX12_sayMove 8 = .ok (.aload_n 0, 1) := by decide +kernel
theorem dX12_sayMove_9 : decode cX12_sayMove 9 = .ok (.getfield 296, 3) := by decide +kernel
theorem dX12_sayMove_12 : decode cX12_sayMove 12 = .ok (.iconst 1, 1) := by decide +kernel
theorem dX12_sayMove_13 : decode cX12_sayMove 13 = .ok (.if_icmp .ne 8, 3) := by decide +kernel
theorem dX12_sayMove_16 : decode cX12_sayMove 16 = .ok (.bipush 25, 2) := by decide +kernel
theorem dX12_sayMove_18 : decode cX12_sayMove 18 = .ok (.goto 4, 3) := by decide +kernel
theorem dX12_sayMove_21 : decode cX12_sayMove 21 = .ok (.iconst 0, 1) := by decide +kernel
theorem dX12_sayMove_22 : decode cX12_sayMove 22 = .ok (.istore_n 1, 1) := by decide +kernel
theorem dX12_sayMove_23 : decode cX12_sayMove 23 = .ok (.iload_n 1, 1) := by decide +kernel
theorem dX12_sayMove_24 : decode cX12_sayMove 24 = .ok (.ifCond .ne 10, 3) := by decide +kernel
theorem dX12_sayMove_27 : decode cX12_sayMove 27 = .ok (.aload_n 0, 1) := by decide +kernel
theorem dX12_sayMove_28 : decode cX12_sayMove 28 = .ok (.iconst 1, 1) := by decide +kernel
theorem dX12_sayMove_29 : decode cX12_sayMove 29 = .ok (.bipush 24, 2) := by decide +kernel
theorem dX12_sayMove_31 : decode cX12_sayMove 31 = .ok (.invokevirtual 331, 3) := by decide +kernel
theorem dX12_sayMove_34 : decode cX12_sayMove 34 = .ok (.aload_n 0, 1) := by decide +kernel
theorem dX12_sayMove_35 : decode cX12_sayMove 35 = .ok (.invokevirtual 310, 3) := by decide +kernel
theorem dX12_sayMove_38 : decode cX12_sayMove 38 = .ok (.ifCond .ne 4, 3) := by decide +kernel
theorem dX12_sayMove_41 : decode cX12_sayMove 41 = .ok (.return_, 1) := by decide +kernel
theorem dX12_sayMove_42 : decode cX12_sayMove 42 = .ok (.iload_n 1, 1) := by decide +kernel
theorem dX12_sayMove_43 : decode cX12_sayMove 43 = .ok (.bipush 25, 2) := by decide +kernel
theorem dX12_sayMove_45 : decode cX12_sayMove 45 = .ok (.if_icmp .ne 8, 3) := by decide +kernel
theorem dX12_sayMove_48 : decode cX12_sayMove 48 = .ok (.bipush 25, 2) := by decide +kernel
theorem dX12_sayMove_50 : decode cX12_sayMove 50 = .ok (.goto 7, 3) := by decide +kernel
theorem dX12_sayMove_53 : decode cX12_sayMove 53 = .ok (.aload_n 0, 1) := by decide +kernel
theorem dX12_sayMove_54 : decode cX12_sayMove 54 = .ok (.getfield 296, 3) := by decide +kernel
theorem dX12_sayMove_57 : decode cX12_sayMove 57 = .ok (.istore_n 1, 1) := by decide +kernel
theorem dX12_sayMove_58 : decode cX12_sayMove 58 = .ok (.aload_n 0, 1) := by decide +kernel
theorem dX12_sayMove_59 : decode cX12_sayMove 59 = .ok (.invokevirtual 316, 3) := by decide +kernel
theorem dX12_sayMove_62 : decode cX12_sayMove 62 = .ok (.aload_n 0, 1) := by decide +kernel
theorem dX12_sayMove_63 : decode cX12_sayMove 63 = .ok (.getfield 334, 3) := by decide +kernel
theorem dX12_sayMove_66 : decode cX12_sayMove 66 = .ok (.istore_n 2, 1) := by decide +kernel
theorem dX12_sayMove_67 : decode cX12_sayMove 67 = .ok (.iconst 1, 1) := by decide +kernel
theorem dX12_sayMove_68 : decode cX12_sayMove 68 = .ok (.istore_n 3, 1) := by decide +kernel
theorem dX12_sayMove_69 : decode cX12_sayMove 69 = .ok (.iload_n 3, 1) := by decide +kernel
theorem dX12_sayMove_70 : decode cX12_sayMove 70 = .ok (.ifCond .eq 179, 3) := by decide +kernel
theorem dX12_sayMove_73 : decode cX12_sayMove 73 = .ok (.aload_n 0, 1) := by decide +kernel
theorem dX12_sayMove_74 : decode cX12_sayMove 74 = .ok (.invokevirtual 310, 3) := by decide +kernel
theorem dX12_sayMove_77 : decode cX12_sayMove 77 = .ok (.ifCond .eq 172, 3) := by decide +kernel
theorem dX12_sayMove_80 : decode cX12_sayMove 80 = .ok (.aload_n 0, 1) := by decide +kernel
theorem dX12_sayMove_81 : decode cX12_sayMove 81 = .ok (.bipush 47, 2) := by decide +kernel
theorem dX12_sayMove_83 : decode cX12_sayMove 83 = .ok (.invokevirtual 328, 3) := by decide +kernel
theorem dX12_sayMove_86 : decode cX12_sayMove 86 = .ok (.aload_n 0, 1) := by decide +kernel
theorem dX12_sayMove_87 : decode cX12_sayMove 87 = .ok (.invokevirtual 310, 3) := by decide +kernel
theorem dX12_sayMove_90 : decode cX12_sayMove 90 = .ok (.ifCond .eq 23, 3) := by decide +kernel
theorem dX12_sayMove_93 : decode cX12_sayMove 93 = .ok (.aload_n 0, 1) := by decide +kernel
theorem dX12_sayMove_94 : decode cX12_sayMove 94 = .ok (.getfield 302, 3) := by decide +kernel
theorem dX12_sayMove_97 : decode cX12_sayMove 97 = .ok (.iconst 3, 1) := by decide +kernel
theorem dX12_sayMove_98 : decode cX12_sayMove 98 = .ok (.if_icmp .ne 15, 3) := by decide +kernel
theorem dX12_sayMove_101 : decode cX12_sayMove 101 = .ok (.aload_n 0, 1) := by decide +kernel
theorem dX12_sayMove_102 : decode cX12_sayMove 102 = .ok (.getfield 296, 3) := by decide +kernel
theorem dX12_sayMove_105 : decode cX12_sayMove 105 = .ok (.iconst 2, 1) := by decide +kernel
theorem dX12_sayMove_106 : decode cX12_sayMove 106 = .ok (.if_icmp .ne 7, 3) := by decide +kernel
theorem dX12_sayMove_109 : decode cX12_sayMove 109 = .ok (.iconst 1, 1) := by decide +kernel
theorem dX12_sayMove_110 : decode cX12_sayMove 110 = .ok (.goto 4, 3) := by decide +kernel
theorem dX12_sayMove_113 : decode cX12_sayMove 113 = .ok (.iconst 0, 1) := by decide +kernel
theorem dX12_sayMove_114 : decode cX12_sayMove 114 = .ok (.istore 4, 2) := by decide +kernel
theorem dX12_sayMove_116 : decode cX12_sayMove 116 = .ok (.iload 4, 2) := by decide +kernel
theorem dX12_sayMove_118 : decode cX12_sayMove 118 = .ok (.ifCond .ne 10, 3) := by decide +kernel
theorem dX12_sayMove_121 : decode cX12_sayMove 121 = .ok (.aload_n 0, 1) := by decide +kernel
theorem dX12_sayMove_122 : decode cX12_sayMove 122 = .ok (.iconst 1, 1) := by decide +kernel
theorem dX12_sayMove_123 : decode cX12_sayMove 123 = .ok (.bipush 24, 2) := by decide +kernel
theorem dX12_sayMove_125 : decode cX12_sayMove 125 = .ok (.invokevirtual 331, 3) := by decide +kernel
theorem dX12_sayMove_128 : decode cX12_sayMove 128 = .ok (.aload_n 0, 1) := by decide +kernel
theorem dX12_sayMove_129 : decode cX12_sayMove 129 = .ok (.getfield 334, 3) := by decide +kernel
theorem dX12_sayMove_132 : decode cX12_sayMove 132 = .ok (.bipush 8, 2) := by decide +kernel
theorem dX12_sayMove_134 : decode cX12_sayMove 134 = .ok (.if_icmp .ne 13, 3) := by decide +kernel
theorem dX12_sayMove_137 : decode cX12_sayMove 137 = .ok (.aload_n 0, 1) := by decide +kernel
theorem dX12_sayMove_138 : decode cX12_sayMove 138 = .ok (.bipush 7, 2) := by decide +kernel
theorem dX12_sayMove_140 : decode cX12_sayMove 140 = .ok (.aload_n 0, 1) := by decide +kernel
theorem dX12_sayMove_141 : decode cX12_sayMove 141 = .ok (.getfield 293, 3) := by decide +kernel
theorem dX12_sayMove_144 : decode cX12_sayMove 144 = .ok (.invokevirtual 319, 3) := by decide +kernel
theorem dX12_sayMove_147 : decode cX12_sayMove 147 = .ok (.aload_n 0, 1) := by decide +kernel
theorem dX12_sayMove_148 : decode cX12_sayMove 148 = .ok (.invokevirtual 310, 3) := by decide +kernel
theorem dX12_sayMove_151 : decode cX12_sayMove 151 = .ok (.ifCond .ne 4, 3) := by decide +kernel
theorem dX12_sayMove_154 : decode cX12_sayMove 154 = .ok (.return_, 1) := by decide +kernel
theorem dX12_sayMove_155 : decode cX12_sayMove 155 = .ok (.aload_n 0, 1) := by decide +kernel
theorem dX12_sayMove_156 : decode cX12_sayMove 156 = .ok (.getfield 66, 3) := by decide +kernel
theorem dX12_sayMove_159 : decode cX12_sayMove 159 = .ok (.aload_n 0, 1) := by decide +kernel
theorem dX12_sayMove_160 : decode cX12_sayMove 160 = .ok (.getfield 334, 3) := by decide +kernel
theorem dX12_sayMove_163 : decode cX12_sayMove 163 = .ok (.iload_n 1, 1) := by decide +kernel
theorem dX12_sayMove_164 : decode cX12_sayMove 164 = .ok (.iastore, 1) := by decide +kernel
theorem dX12_sayMove_165 : decode cX12_sayMove 165 = .ok (.aload_n 0, 1) := by decide +kernel
theorem dX12_sayMove_166 : decode cX12_sayMove 166 = .ok (.getfield 69, 3) := by decide +kernel
theorem dX12_sayMove_169 : decode cX12_sayMove 169 = .ok (.aload_n 0, 1) := by decide +kernel
theorem dX12_sayMove_170 : decode cX12_sayMove 170 = .ok (.getfield 334, 3) := by decide +kernel
theorem dX12_sayMove_173 : decode cX12_sayMove 173 = .ok (.iload 4, 2) := by decide +kernel
theorem dX12_sayMove_175 : decode cX12_sayMove 175 = .ok (.ifCond .eq 7, 3) := by decide +kernel
theorem dX12_sayMove_178 : decode cX12_sayMove 178 = .ok (.iconst 0, 1) := by decide +kernel
theorem dX12_sayMove_179 : decode cX12_sayMove 179 = .ok (.goto 7, 3) := by decide +kernel
theorem dX12_sayMove_182 : decode cX12_sayMove 182 = .ok (.aload_n 0, 1) := by decide +kernel
theorem dX12_sayMove_183 : decode cX12_sayMove 183 = .ok (.getfield 296, 3) := by decide +kernel
theorem dX12_sayMove_186 : decode cX12_sayMove 186 = .ok (.iastore, 1) := by decide +kernel
theorem dX12_sayMove_187 : decode cX12_sayMove 187 = .ok (.aload_n 0, 1) := by decide +kernel
theorem dX12_sayMove_188 : decode cX12_sayMove 188 = .ok (.getfield 69, 3) := by decide +kernel
theorem dX12_sayMove_191 : decode cX12_sayMove 191 = .ok (.aload_n 0, 1) := by decide +kernel
theorem dX12_sayMove_192 : decode cX12_sayMove 192 = .ok (.getfield 334, 3) := by decide +kernel
theorem dX12_sayMove_195 : decode cX12_sayMove 195 = .ok (.iaload, 1) := by decide +kernel
theorem dX12_sayMove_196 : decode cX12_sayMove 196 = .ok (.istore_n 1, 1) := by decide +kernel
theorem dX12_sayMove_197 : decode cX12_sayMove 197 = .ok (.aload_n 0, 1) := by decide +kernel
theorem dX12_sayMove_198 : decode cX12_sayMove 198 = .ok (.invokevirtual 316, 3) := by decide +kernel
theorem dX12_sayMove_201 : decode cX12_sayMove 201 = .ok (.aload_n 0, 1) := by decide +kernel
theorem dX12_sayMove_202 : decode cX12_sayMove 202 = .ok (.getfield 72, 3) := by decide +kernel
theorem dX12_sayMove_205 : decode cX12_sayMove 205 = .ok (.aload_n 0, 1) := by decide +kernel
theorem dX12_sayMove_206 : decode cX12_sayMove 206 = .ok (.getfield 334, 3) := by decide +kernel
theorem dX12_sayMove_209 : decode cX12_sayMove 209 = .ok (.aload_n 0, 1) := by decide +kernel
theorem dX12_sayMove_210 : decode cX12_sayMove 210 = .ok (.bipush 42, 2) := by decide +kernel
theorem dX12_sayMove_212 : decode cX12_sayMove 212 = .ok (.invokevirtual 313, 3) := by decide +kernel
theorem dX12_sayMove_215 : decode cX12_sayMove 215 = .ok (.bastore, 1) := by decide +kernel
theorem dX12_sayMove_216 : decode cX12_sayMove 216 = .ok (.aload_n 0, 1) := by decide +kernel
theorem dX12_sayMove_217 : decode cX12_sayMove 217 = .ok (.bipush 42, 2) := by decide +kernel
theorem dX12_sayMove_219 : decode cX12_sayMove 219 = .ok (.invokevirtual 313, 3) := by decide +kernel
theorem dX12_sayMove_222 : decode cX12_sayMove 222 = .ok (.ifCond .eq 7, 3) := by decide +kernel
theorem dX12_sayMove_225 : decode cX12_sayMove 225 = .ok (.aload_n 0, 1) := by decide +kernel
theorem dX12_sayMove_226 : decode cX12_sayMove 226 = .ok (.invokevirtual 316, 3) := by decide +kernel
theorem dX12_sayMove_229 : decode cX12_sayMove 229 = .ok (.aload_n 0, 1) := by decide +kernel
theorem dX12_sayMove_230 : decode cX12_sayMove 230 = .ok (.dup, 1) := by decide +kernel
theorem dX12_sayMove_231 : decode cX12_sayMove 231 = .ok (.getfield 334, 3) := by decide +kernel
theorem dX12_sayMove_234 : decode cX12_sayMove 234 = .ok (.iconst 1, 1) := by decide +kernel
theorem dX12_sayMove_235 : decode cX12_sayMove 235 = .ok (.iadd, 1) := by decide +kernel
theorem dX12_sayMove_236 : decode cX12_sayMove 236 = .ok (.putfield 334, 3) := by decide +kernel
theorem dX12_sayMove_239 : decode cX12_sayMove 239 = .ok (.aload_n 0, 1) := by decide +kernel
theorem dX12_sayMove_240 : decode cX12_sayMove 240 = .ok (.bipush 47, 2) := by decide +kernel
theorem dX12_sayMove_242 : decode cX12_sayMove 242 = .ok (.invokevirtual 313, 3) := by decide +kernel
theorem dX12_sayMove_245 : decode cX12_sayMove 245 = .ok (.istore_n 3, 1) := by decide +kernel
theorem dX12_sayMove_246 : decode cX12_sayMove 246 = .ok (.goto (-177), 3) := by decide +kernel
theorem dX12_sayMove_249 : decode cX12_sayMove 249 = .ok (.aload_n 0, 1) := by decide +kernel
theorem dX12_sayMove_250 : decode cX12_sayMove 250 = .ok (.bipush 40, 2) := by decide +kernel
theorem dX12_sayMove_252 : decode cX12_sayMove 252 = .ok (.invokevirtual 313, 3) := by decide +kernel
theorem dX12_sayMove_255 : decode cX12_sayMove 255 = .ok (.ifCond .ne 4, 3) := by decide +kernel
theorem dX12_sayMove_258 : decode cX12_sayMove 258 = .ok (.return_, 1) := by decide +kernel
theorem dX12_sayMove_259 : decode cX12_sayMove 259 = .ok (.aload_n 0, 1) := by decide +kernel
theorem dX12_sayMove_260 : decode cX12_sayMove 260 = .ok (.invokevirtual 316, 3) := by decide +kernel
theorem dX12_sayMove_263 : decode cX12_sayMove 263 = .ok (.aload_n 0, 1) := by decide +kernel
theorem dX12_sayMove_264 : decode cX12_sayMove 264 = .ok (.iconst 2, 1) := by decide +kernel
theorem dX12_sayMove_265 : decode cX12_sayMove 265 = .ok (.iconst 4, 1) := by decide +kernel
theorem dX12_sayMove_266 : decode cX12_sayMove 266 = .ok (.invokevirtual 331, 3) := by decide +kernel
theorem dX12_sayMove_269 : decode cX12_sayMove 269 = .ok (.aload_n 0, 1) := by decide +kernel
theorem dX12_sayMove_270 : decode cX12_sayMove 270 = .ok (.getfield 334, 3) := by decide +kernel
theorem dX12_sayMove_273 : decode cX12_sayMove 273 = .ok (.iload_n 2, 1) := by decide +kernel
theorem dX12_sayMove_274 : decode cX12_sayMove 274 = .ok (.isub, 1) := by decide +kernel
theorem dX12_sayMove_275 : decode cX12_sayMove 275 = .ok (.istore 4, 2) := by decide +kernel
theorem dX12_sayMove_277 : decode cX12_sayMove 277 = .ok (.aload_n 0, 1) := by decide +kernel
theorem dX12_sayMove_278 : decode cX12_sayMove 278 = .ok (.invokevirtual 310, 3) := by decide +kernel
theorem dX12_sayMove_281 : decode cX12_sayMove 281 = .ok (.ifCond .eq 27, 3) := by decide +kernel
theorem dX12_sayMove_284 : decode cX12_sayMove 284 = .ok (.iload_n 2, 1) := by decide +kernel
theorem dX12_sayMove_285 : decode cX12_sayMove 285 = .ok (.iload 4, 2) := by decide +kernel
theorem dX12_sayMove_287 : decode cX12_sayMove 287 = .ok (.aload_n 0, 1) := by decide +kernel
theorem dX12_sayMove_288 : decode cX12_sayMove 288 = .ok (.getfield 296, 3) := by decide +kernel
theorem dX12_sayMove_291 : decode cX12_sayMove 291 = .ok (.imul, 1) := by decide +kernel
theorem dX12_sayMove_292 : decode cX12_sayMove 292 = .ok (.iadd, 1) := by decide +kernel
theorem dX12_sayMove_293 : decode cX12_sayMove 293 = .ok (.bipush 8, 2) := by decide +kernel
theorem dX12_sayMove_295 : decode cX12_sayMove 295 = .ok (.if_icmp .le 13, 3) := by decide +kernel
theorem dX12_sayMove_298 : decode cX12_sayMove 298 = .ok (.aload_n 0, 1) := by decide +kernel
theorem dX12_sayMove_299 : decode cX12_sayMove 299 = .ok (.bipush 7, 2) := by decide +kernel
theorem dX12_sayMove_301 : decode cX12_sayMove 301 = .ok (.aload_n 0, 1) := by decide +kernel
theorem dX12_sayMove_302 : decode cX12_sayMove 302 = .ok (.getfield 293, 3) := by decide +kernel
theorem dX12_sayMove_305 : decode cX12_sayMove 305 = .ok (.invokevirtual 319, 3) := by decide +kernel
theorem dX12_sayMove_308 : decode cX12_sayMove 308 = .ok (.aload_n 0, 1) := by decide +kernel
theorem dX12_sayMove_309 : decode cX12_sayMove 309 = .ok (.invokevirtual 310, 3) := by decide +kernel
theorem dX12_sayMove_312 : decode cX12_sayMove 312 = .ok (.ifCond .ne 4, 3) := by decide +kernel
theorem dX12_sayMove_315 : decode cX12_sayMove 315 = .ok (.return_, 1) := by decide +kernel
theorem dX12_sayMove_316 : decode cX12_sayMove 316 = .ok (.iload 4, 2) := by decide +kernel
theorem dX12_sayMove_318 : decode cX12_sayMove 318 = .ok (.istore 5, 2) := by decide +kernel
theorem dX12_sayMove_320 : decode cX12_sayMove 320 = .ok (.iload 5, 2) := by decide +kernel
theorem dX12_sayMove_322 : decode cX12_sayMove 322 = .ok (.iload 4, 2) := by decide +kernel
theorem dX12_sayMove_324 : decode cX12_sayMove 324 = .ok (.aload_n 0, 1) := by decide +kernel
theorem dX12_sayMove_325 : decode cX12_sayMove 325 = .ok (.getfield 296, 3) := by decide +kernel
theorem dX12_sayMove_328 : decode cX12_sayMove 328 = .ok (.imul, 1) := by decide +kernel
theorem dX12_sayMove_329 : decode cX12_sayMove 329 = .ok (.if_icmp .ge 61, 3) := by decide +kernel
theorem dX12_sayMove_332 : decode cX12_sayMove 332 = .ok (.aload_n 0, 1) := by decide +kernel
theorem dX12_sayMove_333 : decode cX12_sayMove 333 = .ok (.getfield 66, 3) := by decide +kernel
theorem dX12_sayMove_336 : decode cX12_sayMove 336 = .ok (.iload_n 2, 1) := by decide +kernel
theorem dX12_sayMove_337 : decode cX12_sayMove 337 = .ok (.iload 5, 2) := by decide +kernel
theorem dX12_sayMove_339 : decode cX12_sayMove 339 = .ok (.iadd, 1) := by decide +kernel
theorem dX12_sayMove_340 : decode cX12_sayMove 340 = .ok (.aload_n 0, 1) := by decide +kernel
theorem dX12_sayMove_341 : decode cX12_sayMove 341 = .ok (.getfield 66, 3) := by decide +kernel
theorem dX12_sayMove_344 : decode cX12_sayMove 344 = .ok (.iload_n 2, 1) := by decide +kernel
theorem dX12_sayMove_345 : decode cX12_sayMove 345 = .ok (.iload 5, 2) := by decide +kernel
theorem dX12_sayMove_347 : decode cX12_sayMove 347 = .ok (.iadd, 1) := by decide +kernel
theorem dX12_sayMove_348 : decode cX12_sayMove 348 = .ok (.iload 4, 2) := by decide +kernel
theorem dX12_sayMove_350 : decode cX12_sayMove 350 = .ok (.isub, 1) := by decide +kernel
theorem dX12_sayMove_351 : decode cX12_sayMove 351 = .ok (.iaload, 1) := by decide +kernel
theorem dX12_sayMove_352 : decode cX12_sayMove 352 = .ok (.iastore, 1) := by decide +kernel
theorem dX12_sayMove_353 : decode cX12_sayMove 353 = .ok (.aload_n 0, 1) := by decide +kernel
theorem dX12_sayMove_354 : decode cX12_sayMove 354 = .ok (.getfield 69, 3) := by decide +kernel
theorem dX12_sayMove_357 : decode cX12_sayMove 357 = .ok (.iload_n 2, 1) := by decide +kernel
theorem dX12_sayMove_358 : decode cX12_sayMove 358 = .ok (.iload 5, 2) := by decide +kernel
theorem dX12_sayMove_360 : decode cX12_sayMove 360 = .ok (.iadd, 1) := by decide +kernel
theorem dX12_sayMove_361 : decode cX12_sayMove 361 = .ok (.aload_n 0, 1) := by decide +kernel
theorem dX12_sayMove_362 : decode cX12_sayMove 362 = .ok (.getfield 69, 3) := by decide +kernel
theorem dX12_sayMove_365 : decode cX12_sayMove 365 = .ok (.iload_n 2, 1) := by decide +kernel
theorem dX12_sayMove_366 : decode cX12_sayMove 366 = .ok (.iload 5, 2) := by decide +kernel
theorem dX12_sayMove_368 : decode cX12_sayMove 368 = .ok (.iadd, 1) := by decide +kernel
theorem dX12_sayMove_369 : decode cX12_sayMove 369 = .ok (.iload 4, 2) := by decide +kernel
theorem dX12_sayMove_371 : decode cX12_sayMove 371 = .ok (.isub, 1) := by decide +kernel
theorem dX12_sayMove_372 : decode cX12_sayMove 372 = .ok (.iaload, 1) := by decide +kernel
theorem dX12_sayMove_373 : decode cX12_sayMove 373 = .ok (.iastore, 1) := by decide +kernel
theorem dX12_sayMove_374 : decode cX12_sayMove 374 = .ok (.aload_n 0, 1) := by decide +kernel
theorem dX12_sayMove_375 : decode cX12_sayMove 375 = .ok (.getfield 72, 3) := by decide +kernel
theorem dX12_sayMove_378 : decode cX12_sayMove 378 = .ok (.iload_n 2, 1) := by decide +kernel
theorem dX12_sayMove_379 : decode cX12_sayMove 379 = .ok (.iload 5, 2) := by decide +kernel
theorem dX12_sayMove_381 : decode cX12_sayMove 381 = .ok (.iadd, 1) := by decide +kernel
theorem dX12_sayMove_382 : decode cX12_sayMove 382 = .ok (.iconst 0, 1) := by decide +kernel
theorem dX12_sayMove_383 : decode cX12_sayMove 383 = .ok (.bastore, 1) := by decide +kernel
theorem dX12_sayMove_384 : decode cX12_sayMove 384 = .ok (.iinc 5 1, 3) := by decide +kernel
theorem dX12_sayMove_387 : decode cX12_sayMove 387 = .ok (.goto (-67), 3) := by decide +kernel
theorem dX12_sayMove_390 : decode cX12_sayMove 390 = .ok (.aload_n 0, 1) := by decide +kernel
theorem dX12_sayMove_391 : decode cX12_sayMove 391 = .ok (.iload_n 2, 1) := by decide +kernel
theorem dX12_sayMove_392 : decode cX12_sayMove 392 = .ok (.iload 4, 2) := by decide +kernel
theorem dX12_sayMove_394 : decode cX12_sayMove 394 = .ok (.aload_n 0, 1) := by decide +kernel
theorem dX12_sayMove_395 : decode cX12_sayMove 395 = .ok (.getfield 296, 3) := by decide +kernel
theorem dX12_sayMove_398 : decode cX12_sayMove 398 = .ok (.imul, 1) := by decide +kernel
theorem dX12_sayMove_399 : decode cX12_sayMove 399 = .ok (.iadd, 1) := by decide +kernel
theorem dX12_sayMove_400 : decode cX12_sayMove 400 = .ok (.putfield 334, 3) := by decide +kernel
theorem dX12_sayMove_403 : decode cX12_sayMove 403 = .ok (.aload_n 0, 1) := by decide +kernel
theorem dX12_sayMove_404 : decode cX12_sayMove 404 = .ok (.invokevirtual 316, 3) := by decide +kernel
theorem dX12_sayMove_407 : decode cX12_sayMove 407 = .ok (.aload_n 0, 1) := by decide +kernel
theorem dX12_sayMove_408 : decode cX12_sayMove 408 = .ok (.bipush 41, 2) := by decide +kernel
theorem dX12_sayMove_410 : decode cX12_sayMove 410 = .ok (.invokevirtual 328, 3) := by decide +kernel
theorem dX12_sayMove_413 : decode cX12_sayMove 413 = .ok (.return_, 1) := by decide +kernel
theorem dX12_canSay_0 : decode cX12_canSay 0 = .ok (.iconst 0, 1) := by decide +kernel
theorem dX12_canSay_1 : decode cX12_canSay 1 = .ok (.istore_n 2, 1) := by decide +kernel
theorem dX12_canSay_2 : decode cX12_canSay 2 = .ok (.iload_n 2, 1) := by decide +kernel
theorem dX12_canSay_3 : decode cX12_canSay 3 = .ok (.aload_n 0, 1) := by decide +kernel
theorem dX12_canSay_4 : decode cX12_canSay 4 = .ok (.getfield 334, 3) := by decide +kernel
theorem dX12_canSay_7 : decode cX12_canSay 7 = .ok (.if_icmp .ge 136, 3) := by decide +kernel
theorem dX12_canSay_10 : decode cX12_canSay 10 = .ok (.aload_n 0, 1) := by decide +kernel
theorem dX12_canSay_11 : decode cX12_canSay 11 = .ok (.getfield 179, 3) := by decide +kernel
theorem dX12_canSay_14 : decode cX12_canSay 14 = .ok (.aload_n 0, 1) := by decide +kernel
theorem dX12_canSay_15 : decode cX12_canSay 15 = .ok (.getfield 182, 3) := by decide +kernel
theorem dX12_canSay_18 : decode cX12_canSay 18 = .ok (.if_icmp .ne 7, 3) := by decide +kernel
theorem dX12_canSay_21 : decode cX12_canSay 21 = .ok (.iconst 0, 1) := by decide +kernel
theorem dX12_canSay_22 : decode cX12_canSay 22 = .ok (.goto 14, 3) := by decide +kernel
theorem dX12_canSay_25 : decode cX12_canSay 25 = .ok (.iload_n 2, 1) := by decide +kernel
theorem dX12_canSay_26 : decode cX12_canSay 26 = .ok (.ifCond .ne 7, 3) := by decide +kernel
theorem dX12_canSay_29 : decode cX12_canSay 29 = .ok (.iload_n 1, 1) := by decide +kernel
theorem dX12_canSay_30 : decode cX12_canSay 30 = .ok (.goto 6, 3) := by decide +kernel
theorem dX12_canSay_33 : decode cX12_canSay 33 = .ok (.iconst 1, 1) := by decide +kernel
theorem dX12_canSay_34 : decode cX12_canSay 34 = .ok (.iload_n 1, 1) := by decide +kernel
theorem dX12_canSay_35 : decode cX12_canSay 35 = .ok (.isub, 1) := by decide +kernel
theorem dX12_canSay_36 : decode cX12_canSay 36 = .ok (.istore_n 3, 1) := by decide +kernel
theorem dX12_canSay_37 : decode cX12_canSay 37 = .ok (.iload_n 3, 1) := by decide +kernel
theorem dX12_canSay_38 : decode cX12_canSay 38 = .ok (.ifCond .ne 10, 3) := by decide +kernel
theorem dX12_canSay_41 : decode cX12_canSay 41 = .ok (.aload_n 0, 1) := by decide +kernel
theorem dX12_canSay_42 : decode cX12_canSay 42 = .ok (.getfield 179, 3) := by decide +kernel
theorem dX12_canSay_45 : decode cX12_canSay 45 = .ok (.goto 7, 3) := by decide +kernel
theorem dX12_canSay_48 : decode cX12_canSay 48 = .ok (.aload_n 0, 1) := by decide +kernel
theorem dX12_canSay_49 : decode cX12_canSay 49 = .ok (.getfield 182, 3) := by decide +kernel
theorem dX12_canSay_52 : decode cX12_canSay 52 = .ok (.istore 4, 2) := by decide +kernel
theorem dX12_canSay_54 : decode cX12_canSay 54 = .ok (.aload_n 0, 1) := by decide +kernel
theorem dX12_canSay_55 : decode cX12_canSay 55 = .ok (.getfield 66, 3) := by decide +kernel
theorem dX12_canSay_58 : decode cX12_canSay 58 = .ok (.iload_n 2, 1) := by decide +kernel
theorem dX12_canSay_59 : decode cX12_canSay 59 = .ok (.iaload, 1) := by decide +kernel
theorem dX12_canSay_60 : decode cX12_canSay 60 = .ok (.istore 5, 2) := by decide +kernel
theorem dX12_canSay_62 : decode cX12_canSay 62 = .ok (.aload_n 0, 1) := by decide +kernel
theorem dX12_canSay_63 : decode cX12_canSay 63 = .ok (.getfield 196, 3) := by decide +kernel
theorem dX12_canSay_66 : decode cX12_canSay 66 = .ok (.ifCond .le 12, 3) := by decide +kernel
theorem dX12_canSay_69 : decode cX12_canSay 69 = .ok (.iload 4, 2) := by decide +kernel
theorem dX12_canSay_71 : decode cX12_canSay 71 = .ok (.aload_n 0, 1) := by decide +kernel
theorem dX12_canSay_72 : decode cX12_canSay 72 = .ok (.getfield 196, 3) := by decide +kernel
theorem dX12_canSay_75 : decode cX12_canSay 75 = .ok (.if_icmp .ne 45, 3) := by decide +kernel
theorem dX12_canSay_78 : decode cX12_canSay 78 = .ok (.iload 5, 2) := by decide +kernel
theorem dX12_canSay_80 : decode cX12_canSay 80 = .ok (.ifCond .eq 40, 3) := by decide +kernel
theorem dX12_canSay_83 : decode cX12_canSay 83 = .ok (.aload_n 0, 1) := by decide +kernel
theorem dX12_canSay_84 : decode cX12_canSay 84 = .ok (.iload_n 2, 1) := by decide +kernel
theorem dX12_canSay_85 : decode cX12_canSay 85 = .ok (.iload 5, 2) := by decide +kernel
theorem dX12_canSay_87 : decode cX12_canSay 87 = .ok (.iload 4, 2) := by decide +kernel
theorem dX12_canSay_89 : decode cX12_canSay 89 = .ok (.invokevirtual 199, 3) := by decide +kernel
theorem dX12_canSay_92 : decode cX12_canSay 92 = .ok (.ifCond .eq 28, 3) := by decide +kernel
theorem dX12_canSay_95 : decode cX12_canSay 95 = .ok (.aload_n 0, 1) := by decide +kernel
theorem dX12_canSay_96 : decode cX12_canSay 96 = .ok (.getfield 69, 3) := by decide +kernel
theorem dX12_canSay_99 : decode cX12_canSay 99 = .ok (.iload_n 2, 1) := by decide +kernel
theorem dX12_canSay_100 : decode cX12_canSay 100 = .ok (.iaload, 1) := by decide +kernel
theorem dX12_canSay_101 : decode cX12_canSay 101 = .ok (.iload 5, 2) := by decide +kernel
theorem dX12_canSay_103 : decode cX12_canSay 103 = .ok (.iload 4, 2) := by decide +kernel
theorem dX12_canSay_105 : decode cX12_canSay 105 = .ok (.if_icmp .le 11, 3) := by decide +kernel
theorem dX12_canSay_108 : decode cX12_canSay 108 = .ok (.iload 5, 2) := by decide +kernel
theorem dX12_canSay_110 : decode cX12_canSay 110 = .ok (.iload 4, 2) := by decide +kernel
theorem dX12_canSay_112 : decode cX12_canSay 112 = .ok (.isub, 1) := by decide +kernel
theorem dX12_canSay_113 : decode cX12_canSay 113 = .ok (.goto 4, 3) := by decide +kernel
theorem dX12_canSay_116 : decode cX12_canSay 116 = .ok (.iconst 0, 1) := by decide +kernel
theorem dX12_canSay_117 : decode cX12_canSay 117 = .ok (.if_icmp .eq 5, 3) := by decide +kernel
theorem dX12_canSay_120 : decode cX12_canSay 120 = .ok (.iconst 0, 1) := by decide +kernel
theorem dX12_canSay_121 : decode cX12_canSay 121 = .ok (.ireturn, 1) := by decide +kernel
theorem dX12_canSay_122 : decode cX12_canSay 122 = .ok (.aload_n 0, 1) := by decide +kernel
theorem dX12_canSay_123 : decode cX12_canSay 123 = .ok (.getfield 76, 3) := by decide +kernel
theorem dX12_canSay_126 : decode cX12_canSay 126 = .ok (.iload_n 2, 1) := by decide +kernel
theorem dX12_canSay_127 : decode cX12_canSay 127 = .ok (.aload_n 0, 1) := by decide +kernel
theorem dX12_canSay_128 : decode cX12_canSay 128 = .ok (.iload_n 2, 1) := by decide +kernel
theorem dX12_canSay_129 : decode cX12_canSay 129 = .ok (.iload 5, 2) := by decide +kernel
theorem dX12_canSay_131 : decode cX12_canSay 131 = .ok (.iload 4, 2) := by decide +kernel
theorem dX12_canSay_133 : decode cX12_canSay 133 = .ok (.invokevirtual 203, 3) := by decide +kernel
theorem dX12_canSay_136 : decode cX12_canSay 136 = .ok (.bastore, 1) := by decide +kernel
theorem dX12_canSay_137 : decode cX12_canSay 137 = .ok (.iinc 2 1, 3) := by decide +kernel
theorem dX12_canSay_140 : decode cX12_canSay 140 = .ok (.goto (-138), 3) := by decide +kernel
theorem dX12_canSay_143 : decode cX12_canSay 143 = .ok (.iconst 1, 1) := by decide +kernel
theorem dX12_canSay_144 : decode cX12_canSay 144 = .ok (.ireturn, 1) := by decide +kernel
theorem dX12_say_0 : decode cX12_say 0 = .ok (.aload_n 0, 1) := by decide +kernel
theorem dX12_say_1 : decode cX12_say 1 = .ok (.iconst 0, 1) := by decide +kernel
theorem dX12_say_2 : decode cX12_say 2 = .ok (.putfield 1, 3) := by decide +kernel
theorem dX12_say_5 : decode cX12_say 5 = .ok (.aload_n 0, 1) := by decide +kernel
theorem dX12_say_6 : decode cX12_say 6 = .ok (.iload_n 1, 1) := by decide +kernel
theorem dX12_say_7 : decode cX12_say 7 = .ok (.ifCond .lt 29, 3) := by decide +kernel
theorem dX12_say_10 : decode cX12_say 10 = .ok (.iload_n 1, 1) := by decide +kernel
theorem dX12_say_11 : decode cX12_say 11 = .ok (.aload_n 0, 1) := by decide +kernel
theorem dX12_say_12 : decode cX12_say 12 = .ok (.getfield 167, 3) := by decide +kernel
theorem dX12_say_15 : decode cX12_say 15 = .ok (.if_icmp .gt 21, 3) := by decide +kernel
theorem dX12_say_18 : decode cX12_say 18 = .ok (.iload_n 2, 1) := by decide +kernel
theorem dX12_say_19 : decode cX12_say 19 = .ok (.invokestatic 236, 3) := by decide +kernel
theorem dX12_say_22 : decode cX12_say 22 = .ok (.ifCond .eq 14, 3) := by decide +kernel
theorem dX12_say_25 : decode cX12_say 25 = .ok (.iload_n 3, 1) := by decide +kernel
theorem dX12_say_26 : decode cX12_say 26 = .ok (.invokestatic 236, 3) := by decide +kernel
theorem dX12_say_29 : decode cX12_say 29 = .ok (.ifCond .eq 7, 3) := by decide +kernel
theorem dX12_say_32 : decode cX12_say 32 = .ok (.iconst 1, 1) := by decide +kernel
theorem dX12_say_33 : decode cX12_say 33 = .ok (.goto 4, 3) := by decide +kernel
theorem dX12_say_36 : decode cX12_say 36 = .ok (.iconst 0, 1) := by decide +kernel
theorem dX12_say_37 : decode cX12_say 37 = .ok (.iconst 1, 1) := by decide +kernel
theorem dX12_say_38 : decode cX12_say 38 = .ok (.invokevirtual 155, 3) := by decide +kernel
theorem dX12_say_41 : decode cX12_say 41 = .ok (.ifCond .eq 17, 3) := by decide +kernel
theorem dX12_say_44 : decode cX12_say 44 = .ok (.aload_n 0, 1) := by decide +kernel
theorem dX12_say_45 : decode cX12_say 45 = .ok (.aload_n 0, 1) := by decide +kernel
theorem dX12_say_46 : decode cX12_say 46 = .ok (.iload_n 2, 1) := by decide +kernel
theorem dX12_say_47 : decode cX12_say 47 = .ok (.iload_n 3, 1) := by decide +kernel
theorem dX12_say_48 : decode cX12_say 48 = .ok (.invokevirtual 240, 3) := by decide +kernel
theorem dX12_say_51 : decode cX12_say 51 = .ok (.iconst 2, 1) := by decide +kernel
theorem dX12_say_52 : decode cX12_say 52 = .ok (.invokevirtual 155, 3) := by decide +kernel
theorem dX12_say_55 : decode cX12_say 55 = .ok (.ifCond .ne 5, 3) := by decide +kernel
theorem dX12_say_58 : decode cX12_say 58 = .ok (.iconst 0, 1) := by decide +kernel
theorem dX12_say_59 : decode cX12_say 59 = .ok (.ireturn, 1) := by decide +kernel
theorem dX12_say_60 : decode cX12_say 60 = .ok (.aload_n 0, 1) := by decide +kernel
theorem dX12_say_61 : decode cX12_say 61 = .ok (.iload_n 1, 1) := by decide +kernel
theorem dX12_say_62 : decode cX12_say 62 = .ok (.invokevirtual 322, 3) := by decide +kernel
theorem dX12_say_65 : decode cX12_say 65 = .ok (.aload_n 0, 1) := by decide +kernel
theorem dX12_say_66 : decode cX12_say 66 = .ok (.iconst 0, 1) := by decide +kernel
theorem dX12_say_67 : decode cX12_say 67 = .ok (.putfield 334, 3) := by decide +kernel
theorem dX12_say_70 : decode cX12_say 70 = .ok (.aload_n 0, 1) := by decide +kernel
theorem dX12_say_71 : decode cX12_say 71 = .ok (.invokevirtual 337, 3) := by decide +kernel
theorem dX12_say_74 : decode cX12_say 74 = .ok (.aload_n 0, 1) := by decide +kernel
theorem dX12_say_75 : decode cX12_say 75 = .ok (.invokevirtual 310, 3) := by decide +kernel
theorem dX12_say_78 : decode cX12_say 78 = .ok (.ifCond .eq 17, 3) := by decide +kernel
theorem dX12_say_81 : decode cX12_say 81 = .ok (.aload_n 0, 1) := by decide +kernel
theorem dX12_say_82 : decode cX12_say 82 = .ok (.getfield 302, 3) := by decide +kernel
theorem dX12_say_85 : decode cX12_say 85 = .ok (.ifCond .eq 10, 3) := by decide +kernel
theorem dX12_say_88 : decode cX12_say 88 = .ok (.aload_n 0, 1) := by decide +kernel
theorem dX12_say_89 : decode cX12_say 89 = .ok (.invokevirtual 337, 3) := by decide +kernel
theorem dX12_say_92 : decode cX12_say 92 = .ok (.goto (-18), 3) := by decide +kernel
theorem dX12_say_95 : decode cX12_say 95 = .ok (.aload_n 0, 1) := by decide +kernel
theorem dX12_say_96 : decode cX12_say 96 = .ok (.invokevirtual 310, 3) := by decide +kernel
theorem dX12_say_99 : decode cX12_say 99 = .ok (.ifCond .ne 10, 3) := by decide +kernel
theorem dX12_say_102 : decode cX12_say 102 = .ok (.iconst (-1), 1) := by decide +kernel
theorem dX12_say_103 : decode cX12_say 103 = .ok (.aload_n 0, 1) := by decide +kernel
theorem dX12_say_104 : decode cX12_say 104 = .ok (.getfield 307, 3) := by decide +kernel
theorem dX12_say_107 : decode cX12_say 107 = .ok (.isub, 1) := by decide +kernel
theorem dX12_say_108 : decode cX12_say 108 = .ok (.ireturn, 1) := by decide +kernel
theorem dX12_say_109 : decode cX12_say 109 = .ok (.aload_n 0, 1) := by decide +kernel
theorem dX12_say_110 : decode cX12_say 110 = .ok (.iload_n 2, 1) := by decide +kernel
theorem dX12_say_111 : decode cX12_say 111 = .ok (.iload_n 3, 1) := by decide +kernel
theorem dX12_say_112 : decode cX12_say 112 = .ok (.invokevirtual 243, 3) := by decide +kernel
theorem dX12_say_115 : decode cX12_say 115 = .ok (.aload_n 0, 1) := by decide +kernel
theorem dX12_say_116 : decode cX12_say 116 = .ok (.getfield 334, 3) := by decide +kernel
theorem dX12_say_119 : decode cX12_say 119 = .ok (.aload_n 0, 1) := by decide +kernel
theorem dX12_say_120 : decode cX12_say 120 = .ok (.getfield 185, 3) := by decide +kernel
theorem dX12_say_123 : decode cX12_say 123 = .ok (.if_icmp .ne 23, 3) := by decide +kernel
theorem dX12_say_126 : decode cX12_say 126 = .ok (.aload_n 0, 1) := by decide +kernel
theorem dX12_say_127 : decode cX12_say 127 = .ok (.iconst 0, 1) := by decide +kernel
theorem dX12_say_128 : decode cX12_say 128 = .ok (.invokevirtual 340, 3) := by decide +kernel
theorem dX12_say_131 : decode cX12_say 131 = .ok (.ifCond .ne 11, 3) := by decide +kernel
theorem dX12_say_134 : decode cX12_say 134 = .ok (.aload_n 0, 1) := by decide +kernel
theorem dX12_say_135 : decode cX12_say 135 = .ok (.iconst 1, 1) := by decide +kernel
theorem dX12_say_136 : decode cX12_say 136 = .ok (.invokevirtual 340, 3) := by decide +kernel
theorem dX12_say_139 : decode cX12_say 139 = .ok (.ifCond .eq 7, 3) := by decide +kernel
theorem dX12_say_142 : decode cX12_say 142 = .ok (.iconst 1, 1) := by decide +kernel
theorem dX12_say_143 : decode cX12_say 143 = .ok (.goto 4, 3) := by decide +kernel
theorem dX12_say_146 : decode cX12_say 146 = .ok (.iconst 0, 1) := by decide +kernel
theorem dX12_say_147 : decode cX12_say 147 = .ok (.istore 4, 2) := by decide +kernel
theorem dX12_say_149 : decode cX12_say 149 = .ok (.iconst 1, 1) := by decide +kernel
theorem dX12_say_150 : decode cX12_say 150 = .ok (.istore 5, 2) := by decide +kernel
theorem dX12_say_152 : decode cX12_say 152 = .ok (.iconst 0, 1) := by decide +kernel
theorem dX12_say_153 : decode cX12_say 153 = .ok (.istore 6, 2) := by decide +kernel
theorem dX12_say_155 : decode cX12_say 155 = .ok (.iload 6, 2) := by decide +kernel
theorem dX12_say_157 : decode cX12_say 157 = .ok (.aload_n 0, 1) := by decide +kernel
theorem dX12_say_158 : decode cX12_say 158 = .ok (.getfield 334, 3) := by decide +kernel
theorem dX12_say_161 : decode cX12_say 161 = .ok (.if_icmp .ge 43, 3) := by decide +kernel
theorem dX12_say_164 : decode cX12_say 164 = .ok (.iload 4, 2) := by decide +kernel
theorem dX12_say_166 : decode cX12_say 166 = .ok (.ifCond .eq 38, 3) := by decide +kernel
theorem dX12_say_169 : decode cX12_say 169 = .ok (.iload 5, 2) := by decide +kernel
theorem dX12_say_171 : decode cX12_say 171 = .ok (.ifCond .eq 24, 3) := by decide +kernel
theorem dX12_say_174 : decode cX12_say 174 = .ok (.aload_n 0, 1) := by decide +kernel
theorem dX12_say_175 : decode cX12_say 175 = .ok (.getfield 76, 3) := by decide +kernel
theorem dX12_say_178 : decode cX12_say 178 = .ok (.iload 6, 2) := by decide +kernel
theorem dX12_say_180 : decode cX12_say 180 = .ok (.baload, 1) := by decide +kernel
theorem dX12_say_181 : decode cX12_say 181 = .ok (.aload_n 0, 1) := by decide +kernel
theorem dX12_say_182 : decode cX12_say 182 = .ok (.getfield 72, 3) := by decide +kernel
theorem dX12_say_185 : decode cX12_say 185 = .ok (.iload 6, 2) := by decide +kernel
theorem dX12_say_187 : decode cX12_say 187 = .ok (.baload, 1) := by decide +kernel
theorem dX12_say_188 : decode cX12_say 188 = .ok (.if_icmp .ne 7, 3) := by decide +kernel
theorem dX12_say_191 : decode cX12_say 191 = .ok (.iconst 1, 1) := by decide +kernel
theorem dX12_say_192 : decode cX12_say 192 = .ok (.goto 4, 3) := by decide +kernel
theorem dX12_say_195 : decode cX12_say 195 = .ok (.iconst 0, 1) := by decide +kernel
theorem dX12_say_196 : decode cX12_say 196 = .ok (.istore 5, 2) := by decide +kernel
theorem dX12_say_198 : decode cX12_say 198 = .ok (.iinc 6 1, 3) := by decide +kernel
theorem dX12_say_201 : decode cX12_say 201 = .ok (.goto (-46), 3) := by decide +kernel
theorem dX12_say_204 : decode cX12_say 204 = .ok (.iload 4, 2) := by decide +kernel
theorem dX12_say_206 : decode cX12_say 206 = .ok (.ifCond .ne 15, 3) := by decide +kernel
theorem dX12_say_209 : decode cX12_say 209 = .ok (.aload_n 0, 1) := by decide +kernel
theorem dX12_say_210 : decode cX12_say 210 = .ok (.iconst 3, 1) := by decide +kernel
theorem dX12_say_211 : decode cX12_say 211 = .ok (.aload_n 0, 1) := by decide +kernel
theorem dX12_say_212 : decode cX12_say 212 = .ok (.getfield 290, 3) := by decide +kernel
theorem dX12_say_215 : decode cX12_say 215 = .ok (.invokevirtual 319, 3) := by decide +kernel
theorem dX12_say_218 : decode cX12_say 218 = .ok (.goto 17, 3) := by decide +kernel
theorem dX12_say_221 : decode cX12_say 221 = .ok (.iload 5, 2) := by decide +kernel
theorem dX12_say_223 : decode cX12_say 223 = .ok (.ifCond .ne 12, 3) := by decide +kernel
theorem dX12_say_226 : decode cX12_say 226 = .ok (.aload_n 0, 1) := by decide +kernel
theorem dX12_say_227 : decode cX12_say 227 = .ok (.iconst 4, 1) := by decide +kernel
theorem dX12_say_228 : decode cX12_say 228 = .ok (.aload_n 0, 1) := by decide +kernel
theorem dX12_say_229 : decode cX12_say 229 = .ok (.getfield 290, 3) := by decide +kernel
theorem dX12_say_232 : decode cX12_say 232 = .ok (.invokevirtual 319, 3) := by decide +kernel
theorem dX12_say_235 : decode cX12_say 235 = .ok (.aload_n 0, 1) := by decide +kernel
theorem dX12_say_236 : decode cX12_say 236 = .ok (.invokevirtual 310, 3) := by decide +kernel
theorem dX12_say_239 : decode cX12_say 239 = .ok (.ifCond .eq 14, 3) := by decide +kernel
theorem dX12_say_242 : decode cX12_say 242 = .ok (.aload_n 0, 1) := by decide +kernel
theorem dX12_say_243 : decode cX12_say 243 = .ok (.aload_n 0, 1) := by decide +kernel
theorem dX12_say_244 : decode cX12_say 244 = .ok (.getfield 334, 3) := by decide +kernel
theorem dX12_say_247 : decode cX12_say 247 = .ok (.invokevirtual 217, 3) := by decide +kernel
theorem dX12_say_250 : decode cX12_say 250 = .ok (.goto 9, 3) := by decide +kernel
theorem dX12_say_253 : decode cX12_say 253 = .ok (.iconst (-1), 1) := by decide +kernel
theorem dX12_say_254 : decode cX12_say 254 = .ok (.aload_n 0, 1) := by decide +kernel
theorem dX12_say_255 : decode cX12_say 255 = .ok (.getfield 307, 3) := by decide +kernel
theorem dX12_say_258 : decode cX12_say 258 = .ok (.isub, 1) := by decide +kernel
theorem dX12_say_259 : decode cX12_say 259 = .ok (.ireturn, 1) := by decide +kernel
theorem dX12_on_0 : decode cX12_on 0 = .ok (.iload_n 0, 1) := by decide +kernel
theorem dX12_on_1 : decode cX12_on 1 = .ok (.iconst 4, 1) := by decide +kernel
theorem dX12_on_2 : decode cX12_on 2 = .ok (.iload_n 1, 1) := by decide +kernel
theorem dX12_on_3 : decode cX12_on 3 = .ok (.iconst 1, 1) := by decide +kernel
theorem dX12_on_4 : decode cX12_on 4 = .ok (.isub, 1) := by decide +kernel
theorem dX12_on_5 : decode cX12_on 5 = .ok (.imul, 1) := by decide +kernel
theorem dX12_on_6 : decode cX12_on 6 = .ok (.ishr, 1) := by decide +kernel
theorem dX12_on_7 : decode cX12_on 7 = .ok (.bipush 15, 2) := by decide +kernel
theorem dX12_on_9 : decode cX12_on 9 = .ok (.iand, 1) := by decide +kernel
theorem dX12_on_10 : decode cX12_on 10 = .ok (.ireturn, 1) := by decide +kernel
theorem dX12_isStand_0 : decode cX12_isStand 0 = .ok (.iload_n 0, 1) := by decide +kernel
theorem dX12_isStand_1 : decode cX12_isStand 1 = .ok (.ifCond .lt 10, 3) := by decide +kernel
theorem dX12_isStand_4 : decode cX12_isStand 4 = .ok (.iload_n 0, 1) := by decide +kernel
theorem dX12_isStand_5 : decode cX12_isStand 5 = .ok (.ldc_w 343, 3) := by decide +kernel
theorem dX12_isStand_8 : decode cX12_isStand 8 = .ok (.if_icmp .le 5, 3) := by decide +kernel
theorem dX12_isStand_11 : decode cX12_isStand 11 = .ok (.iconst 0, 1) := by decide +kernel
theorem dX12_isStand_12 : decode cX12_isStand 12 = .ok (.ireturn, 1) := by decide +kernel
theorem dX12_isStand_13 : decode cX12_isStand 13 = .ok (.iconst 0, 1) := by decide +kernel
theorem dX12_isStand_14 : decode cX12_isStand 14 = .ok (.istore_n 1, 1) := by decide +kernel
theorem dX12_isStand_15 : decode cX12_isStand 15 = .ok (.iconst 1, 1) := by decide +kernel
theorem dX12_isStand_16 : decode cX12_isStand 16 = .ok (.istore_n 2, 1) := by decide +kernel
theorem dX12_isStand_17 : decode cX12_isStand 17 = .ok (.iload_n 2, 1) := by decide +kernel
theorem dX12_isStand_18 : decode cX12_isStand 18 = .ok (.bipush 6, 2) := by decide +kernel
theorem dX12_isStand_20 : decode cX12_isStand 20 = .ok (.if_icmp .gt 17, 3) := by decide +kernel
theorem dX12_isStand_23 : decode cX12_isStand 23 = .ok (.iload_n 1, 1) := by decide +kernel
theorem dX12_isStand_24 : decode cX12_isStand 24 = .ok (.iload_n 0, 1) := by decide +kernel
theorem dX12_isStand_25 : decode cX12_isStand 25 = .ok (.iload_n 2, 1) := by decide +kernel
theorem dX12_isStand_26 : decode cX12_isStand 26 = .ok (.invokestatic 344, 3) := by decide +kernel
theorem dX12_isStand_29 : decode cX12_isStand 29 = .ok (.iadd, 1) := by decide +kernel
theorem dX12_isStand_30 : decode cX12_isStand 30 = .ok (.istore_n 1, 1) := by decide +kernel
theorem dX12_isStand_31 : decode cX12_isStand 31 = .ok (.iinc 2 1, 3) := by decide +kernel
theorem dX12_isStand_34 : decode cX12_isStand 34 = .ok (.goto (-17), 3) := by decide +kernel
theorem dX12_isStand_37 : decode cX12_isStand 37 = .ok (.iload_n 1, 1) := by decide +kernel
theorem dX12_isStand_38 : decode cX12_isStand 38 = .ok (.bipush 15, 2) := by decide +kernel
theorem dX12_isStand_40 : decode cX12_isStand 40 = .ok (.if_icmp .gt 7, 3) := by decide +kernel
theorem dX12_isStand_43 : decode cX12_isStand 43 = .ok (.iconst 1, 1) := by decide +kernel
theorem dX12_isStand_44 : decode cX12_isStand 44 = .ok (.goto 4, 3) := by decide +kernel
theorem dX12_isStand_47 : decode cX12_isStand 47 = .ok (.iconst 0, 1) := by decide +kernel
theorem dX12_isStand_48 : decode cX12_isStand 48 = .ok (.ireturn, 1) := by decide +kernel
theorem dX12_pipsOf_0 : decode cX12_pipsOf 0 = .ok (.iconst 0, 1) := by decide +kernel
theorem dX12_pipsOf_1 : decode cX12_pipsOf 1 = .ok (.istore_n 1, 1) := by decide +kernel
theorem dX12_pipsOf_2 : decode cX12_pipsOf 2 = .ok (.iconst 1, 1) := by decide +kernel
theorem dX12_pipsOf_3 : decode cX12_pipsOf 3 = .ok (.istore_n 2, 1) := by decide +kernel
theorem dX12_pipsOf_4 : decode cX12_pipsOf 4 = .ok (.iload_n 2, 1) := by decide +kernel
theorem dX12_pipsOf_5 : decode cX12_pipsOf 5 = .ok (.bipush 6, 2) := by decide +kernel
theorem dX12_pipsOf_7 : decode cX12_pipsOf 7 = .ok (.if_icmp .gt 19, 3) := by decide +kernel
theorem dX12_pipsOf_10 : decode cX12_pipsOf 10 = .ok (.iload_n 1, 1) := by decide +kernel
theorem dX12_pipsOf_11 : decode cX12_pipsOf 11 = .ok (.iload_n 2, 1) := by decide +kernel
theorem dX12_pipsOf_12 : decode cX12_pipsOf 12 = .ok (.iload_n 0, 1) := by decide +kernel
theorem dX12_pipsOf_13 : decode cX12_pipsOf 13 = .ok (.iload_n 2, 1) := by decide +kernel
theorem dX12_pipsOf_14 : decode cX12_pipsOf 14 = .ok (.invokestatic 344, 3) := by decide +kernel
theorem dX12_pipsOf_17 : decode cX12_pipsOf 17 = .ok (.imul, 1) := by decide +kernel
theorem dX12_pipsOf_18 : decode cX12_pipsOf 18 = .ok (.iadd, 1) := by decide +kernel
theorem dX12_pipsOf_19 : decode cX12_pipsOf 19 = .ok (.istore_n 1, 1) := by decide +kernel
theorem dX12_pipsOf_20 : decode cX12_pipsOf 20 = .ok (.iinc 2 1, 3) := by decide +kernel
theorem dX12_pipsOf_23 : decode cX12_pipsOf 23 = .ok (.goto (-19), 3) := by decide +kernel
theorem dX12_pipsOf_26 : decode cX12_pipsOf 26 = .ok (.iload_n 1, 1) := by decide +kernel
theorem dX12_pipsOf_27 : decode cX12_pipsOf 27 = .ok (.ireturn, 1) := by decide +kernel
theorem dX12_isKnown_0 : decode cX12_isKnown 0 = .ok (.iload_n 1, 1) := by decide +kernel
theorem dX12_isKnown_1 : decode cX12_isKnown 1 = .ok (.invokestatic 347, 3) := by decide +kernel
theorem dX12_isKnown_4 : decode cX12_isKnown 4 = .ok (.aload_n 0, 1) := by decide +kernel
theorem dX12_isKnown_5 : decode cX12_isKnown 5 = .ok (.getfield 173, 3) := by decide +kernel
theorem dX12_isKnown_8 : decode cX12_isKnown 8 = .ok (.if_icmp .gt 7, 3) := by decide +kernel
theorem dX12_isKnown_11 : decode cX12_isKnown 11 = .ok (.iconst 1, 1) := by decide +kernel
theorem dX12_isKnown_12 : decode cX12_isKnown 12 = .ok (.goto 4, 3) := by decide +kernel
theorem dX12_isKnown_15 : decode cX12_isKnown 15 = .ok (.iconst 0, 1) := by decide +kernel
theorem dX12_isKnown_16 : decode cX12_isKnown 16 = .ok (.ireturn, 1) := by decide +kernel
theorem dX12_ready_0 : decode cX12_ready 0 = .ok (.aload_n 0, 1) := by decide +kernel
theorem dX12_ready_1 : decode cX12_ready 1 = .ok (.getfield 350, 3) := by decide +kernel
theorem dX12_ready_4 : decode cX12_ready 4 = .ok (.ifCond .eq 4, 3) := by decide +kernel
theorem dX12_ready_7 : decode cX12_ready 7 = .ok (.return_, 1) := by decide +kernel
theorem dX12_ready_8 : decode cX12_ready 8 = .ok (.aload_n 0, 1) := by decide +kernel
theorem dX12_ready_9 : decode cX12_ready 9 = .ok (.iconst 1, 1) := by decide +kernel
theorem dX12_ready_10 : decode cX12_ready 10 = .ok (.putfield 350, 3) := by decide +kernel
theorem dX12_ready_13 : decode cX12_ready 13 = .ok (.iconst 0, 1) := by decide +kernel
theorem dX12_ready_14 : decode cX12_ready 14 = .ok (.istore_n 1, 1) := by decide +kernel
theorem dX12_ready_15 : decode cX12_ready 15 = .ok (.iload_n 1, 1) := by decide +kernel
theorem dX12_ready_16 : decode cX12_ready 16 = .ok (.bipush 17, 2) := by decide +kernel
theorem dX12_ready_18 : decode cX12_ready 18 = .ok (.if_icmp .ge 16, 3) := by decide +kernel
theorem dX12_ready_21 : decode cX12_ready 21 = .ok (.aload_n 0, 1) := by decide +kernel
theorem dX12_ready_22 : decode cX12_ready 22 = .ok (.getfield 91, 3) := by decide +kernel
theorem dX12_ready_25 : decode cX12_ready 25 = .ok (.iload_n 1, 1) := by decide +kernel
theorem dX12_ready_26 : decode cX12_ready 26 = .ok (.iconst 1, 1) := by decide +kernel
theorem dX12_ready_27 : decode cX12_ready 27 = .ok (.iastore, 1) := by decide +kernel
theorem dX12_ready_28 : decode cX12_ready 28 = .ok (.iinc 1 1, 3) := by decide +kernel
theorem dX12_ready_31 : decode cX12_ready 31 = .ok (.goto (-16), 3) := by decide +kernel
theorem dX12_ready_34 : decode cX12_ready 34 = .ok (.iconst 1, 1) := by decide +kernel
theorem dX12_ready_35 : decode cX12_ready 35 = .ok (.istore_n 1, 1) := by decide +kernel
theorem dX12_ready_36 : decode cX12_ready 36 = .ok (.iload_n 1, 1) := by decide +kernel
theorem dX12_ready_37 : decode cX12_ready 37 = .ok (.bipush 7, 2) := by decide +kernel
theorem dX12_ready_39 : decode cX12_ready 39 = .ok (.if_icmp .ge 53, 3) := by decide +kernel
theorem dX12_ready_42 : decode cX12_ready 42 = .ok (.iconst 0, 1) := by decide +kernel
theorem dX12_ready_43 : decode cX12_ready 43 = .ok (.istore_n 2, 1) := by decide +kernel
theorem dX12_ready_44 : decode cX12_ready 44 = .ok (.iconst 0, 1) := by decide +kernel
theorem dX12_ready_45 : decode cX12_ready 45 = .ok (.istore_n 3, 1) := by decide +kernel
theorem dX12_ready_46 : decode cX12_ready 46 = .ok (.iload_n 3, 1) := by decide +kernel
theorem dX12_ready_47 : decode cX12_ready 47 = .ok (.bipush 16, 2) := by decide +kernel
theorem dX12_ready_49 : decode cX12_ready 49 = .ok (.if_icmp .ge 37, 3) := by decide +kernel
theorem dX12_ready_52 : decode cX12_ready 52 = .ok (.iload_n 2, 1) := by decide +kernel
theorem dX12_ready_53 : decode cX12_ready 53 = .ok (.aload_n 0, 1) := by decide +kernel
theorem dX12_ready_54 : decode cX12_ready 54 = .ok (.getfield 91, 3) := by decide +kernel
theorem dX12_ready_57 : decode cX12_ready 57 = .ok (.bipush 17, 2) := by decide +kernel
theorem dX12_ready_59 : decode cX12_ready 59 = .ok (.iload_n 1, 1) := by decide +kernel
theorem dX12_ready_60 : decode cX12_ready 60 = .ok (.iconst 1, 1) := by decide +kernel
theorem dX12_ready_61 : decode cX12_ready 61 = .ok (.isub, 1) := by decide +kernel
theorem dX12_ready_62 : decode cX12_ready 62 = .ok (.imul, 1) := by decide +kernel
theorem dX12_ready_63 : decode cX12_ready 63 = .ok (.iload_n 3, 1) := by decide +kernel
theorem dX12_ready_64 : decode cX12_ready 64 = .ok (.iadd, 1) := by decide +kernel
theorem dX12_ready_65 : decode cX12_ready 65 = .ok (.iaload, 1) := by decide +kernel
theorem dX12_ready_66 : decode cX12_ready 66 = .ok (.iadd, 1) := by decide +kernel
theorem dX12_ready_67 : decode cX12_ready 67 = .ok (.istore_n 2, 1) := by decide +kernel
theorem dX12_ready_68 : decode cX12_ready 68 = .ok (.aload_n 0, 1) := by decide +kernel
theorem dX12_ready_69 : decode cX12_ready 69 = .ok (.getfield 91, 3) := by decide +kernel
theorem dX12_ready_72 : decode cX12_ready 72 = .ok (.bipush 17, 2) := by decide +kernel
theorem dX12_ready_74 : decode cX12_ready 74 = .ok (.iload_n 1, 1) := by decide +kernel
theorem dX12_ready_75 : decode cX12_ready 75 = .ok (.imul, 1) := by decide +kernel
theorem dX12_ready_76 : decode cX12_ready 76 = .ok (.iload_n 3, 1) := by decide +kernel
theorem dX12_ready_77 : decode cX12_ready 77 = .ok (.iadd, 1) := by decide +kernel
theorem dX12_ready_78 : decode cX12_ready 78 = .ok (.iload_n 2, 1) := by decide +kernel
theorem dX12_ready_79 : decode cX12_ready 79 = .ok (.iastore, 1) := by decide +kernel
theorem dX12_ready_80 : decode cX12_ready 80 = .ok (.iinc 3 1, 3) := by decide +kernel
theorem dX12_ready_83 : decode cX12_ready 83 = .ok (.goto (-37), 3) := by decide +kernel
theorem dX12_ready_86 : decode cX12_ready 86 = .ok (.iinc 1 1, 3) := by decide +kernel
theorem dX12_ready_89 : decode cX12_ready 89 = .ok (.goto (-53), 3) := by decide +kernel
theorem dX12_ready_92 : decode cX12_ready 92 = .ok (.iconst 0, 1) := by decide +kernel
theorem dX12_ready_93 : decode cX12_ready 93 = .ok (.istore_n 1, 1) := by decide +kernel
theorem dX12_ready_94 : decode cX12_ready 94 = .ok (.iload_n 1, 1) := by decide +kernel
theorem dX12_ready_95 : decode cX12_ready 95 = .ok (.bipush 8, 2) := by decide +kernel
theorem dX12_ready_97 : decode cX12_ready 97 = .ok (.if_icmp .ge 16, 3) := by decide +kernel
theorem dX12_ready_100 : decode cX12_ready 100 = .ok (.aload_n 0, 1) := by decide +kernel
theorem dX12_ready_101 : decode cX12_ready 101 = .ok (.getfield 94, 3) := by decide +kernel
theorem dX12_ready_104 : decode cX12_ready 104 = .ok (.iload_n 1, 1) := by decide +kernel
theorem dX12_ready_105 : decode cX12_ready 105 = .ok (.iconst 0, 1) := by decide +kernel
theorem dX12_ready_106 : decode cX12_ready 106 = .ok (.iastore, 1) := by decide +kernel
theorem dX12_ready_107 : decode cX12_ready 107 = .ok (.iinc 1 1, 3) := by decide +kernel
theorem dX12_ready_110 : decode cX12_ready 110 = .ok (.goto (-16), 3) := by decide +kernel
theorem dX12_ready_113 : decode cX12_ready 113 = .ok (.aload_n 0, 1) := by decide +kernel
theorem dX12_ready_114 : decode cX12_ready 114 = .ok (.getfield 94, 3) := by decide +kernel
theorem dX12_ready_117 : decode cX12_ready 117 = .ok (.iconst 0, 1) := by decide +kernel
theorem dX12_ready_118 : decode cX12_ready 118 = .ok (.iconst 1, 1) := by decide +kernel
theorem dX12_ready_119 : decode cX12_ready 119 = .ok (.iastore, 1) := by decide +kernel
theorem dX12_ready_120 : decode cX12_ready 120 = .ok (.iconst 0, 1) := by decide +kernel
theorem dX12_ready_121 : decode cX12_ready 121 = .ok (.istore_n 1, 1) := by decide +kernel
theorem dX12_ready_122 : decode cX12_ready 122 = .ok (.iload_n 1, 1) := by decide +kernel
theorem dX12_ready_123 : decode cX12_ready 123 = .ok (.bipush 36, 2) := by decide +kernel
theorem dX12_ready_125 : decode cX12_ready 125 = .ok (.if_icmp .ge 18, 3) := by decide +kernel
theorem dX12_ready_128 : decode cX12_ready 128 = .ok (.aload_n 0, 1) := by decide +kernel
theorem dX12_ready_129 : decode cX12_ready 129 = .ok (.getfield 94, 3) := by decide +kernel
theorem dX12_ready_132 : decode cX12_ready 132 = .ok (.bipush 36, 2) := by decide +kernel
theorem dX12_ready_134 : decode cX12_ready 134 = .ok (.invokestatic 353, 3) := by decide +kernel
theorem dX12_ready_137 : decode cX12_ready 137 = .ok (.iinc 1 1, 3) := by decide +kernel
theorem dX12_ready_140 : decode cX12_ready 140 = .ok (.goto (-18), 3) := by decide +kernel
theorem dX12_ready_143 : decode cX12_ready 143 = .ok (.aload_n 0, 1) := by decide +kernel
theorem dX12_ready_144 : decode cX12_ready 144 = .ok (.getfield 88, 3) := by decide +kernel
theorem dX12_ready_147 : decode cX12_ready 147 = .ok (.iconst 0, 1) := by decide +kernel
theorem dX12_ready_148 : decode cX12_ready 148 = .ok (.iconst 0, 1) := by decide +kernel
theorem dX12_ready_149 : decode cX12_ready 149 = .ok (.iastore, 1) := by decide +kernel
theorem dX12_ready_150 : decode cX12_ready 150 = .ok (.return_, 1) := by decide +kernel
theorem dX12_numberOf_0 : decode cX12_numberOf 0 = .ok (.iconst 0, 1) := by decide +kernel
theorem dX12_numberOf_1 : decode cX12_numberOf 1 = .ok (.istore_n 2, 1) := by decide +kernel
theorem dX12_numberOf_2 : decode cX12_numberOf 2 = .ok (.bipush 15, 2) := by decide +kernel
theorem dX12_numberOf_4 : decode cX12_numberOf 4 = .ok (.istore_n 3, 1) := by decide +kernel
theorem dX12_numberOf_5 : decode cX12_numberOf 5 = .ok (.bipush 6, 2) := by decide +kernel
theorem dX12_numberOf_7 : decode cX12_numberOf 7 = .ok (.istore 4, 2) := by decide +kernel
theorem dX12_numberOf_9 : decode cX12_numberOf 9 = .ok (.iload 4, 2) := by decide +kernel
theorem dX12_numberOf_11 : decode cX12_numberOf 11 = .ok (.ifCond .le 58, 3) := by decide +kernel
theorem dX12_numberOf_14 : decode cX12_numberOf 14 = .ok (.iload_n 1, 1) := by decide +kernel
theorem dX12_numberOf_15 : decode cX12_numberOf 15 = .ok (.iload 4, 2) := by decide +kernel
theorem dX12_numberOf_17 : decode cX12_numberOf 17 = .ok (.invokestatic 344, 3) := by decide +kernel
theorem dX12_numberOf_20 : decode cX12_numberOf 20 = .ok (.istore 5, 2) := by decide +kernel
theorem dX12_numberOf_22 : decode cX12_numberOf 22 = .ok (.iconst 0, 1) := by decide +kernel
theorem dX12_numberOf_23 : decode cX12_numberOf 23 = .ok (.istore 6, 2) := by decide +kernel
theorem dX12_numberOf_25 : decode cX12_numberOf 25 = .ok (.iload 6, 2) := by decide +kernel
theorem dX12_numberOf_27 : decode cX12_numberOf 27 = .ok (.iload 5, 2) := by decide +kernel
theorem dX12_numberOf_29 : decode cX12_numberOf 29 = .ok (.if_icmp .ge 29, 3) := by decide +kernel
theorem dX12_numberOf_32 : decode cX12_numberOf 32 = .ok (.iload_n 2, 1) := by decide +kernel
theorem dX12_numberOf_33 : decode cX12_numberOf 33 = .ok (.aload_n 0, 1) := by decide +kernel
theorem dX12_numberOf_34 : decode cX12_numberOf 34 = .ok (.getfield 91, 3) := by decide +kernel
theorem dX12_numberOf_37 : decode cX12_numberOf 37 = .ok (.bipush 17, 2) := by decide +kernel
theorem dX12_numberOf_39 : decode cX12_numberOf 39 = .ok (.iload 4, 2) := by decide +kernel
theorem dX12_numberOf_41 : decode cX12_numberOf 41 = .ok (.iconst 1, 1) := by decide +kernel
theorem dX12_numberOf_42 : decode cX12_numberOf 42 = .ok (.isub, 1) := by decide +kernel
theorem dX12_numberOf_43 : decode cX12_numberOf 43 = .ok (.imul, 1) := by decide +kernel
theorem dX12_numberOf_44 : decode cX12_numberOf 44 = .ok (.iload_n 3, 1) := by decide +kernel
theorem dX12_numberOf_45 : decode cX12_numberOf 45 = .ok (.iadd, 1) := by decide +kernel
theorem dX12_numberOf_46 : decode cX12_numberOf 46 = .ok (.iload 6, 2) := by decide +kernel
theorem dX12_numberOf_48 : decode cX12_numberOf 48 = .ok (.isub, 1) := by decide +kernel
theorem dX12_numberOf_49 : decode cX12_numberOf 49 = .ok (.iaload, 1) := by decide +kernel
theorem dX12_numberOf_50 : decode cX12_numberOf 50 = .ok (.iadd, 1) := by decide +kernel
theorem dX12_numberOf_51 : decode cX12_numberOf 51 = .ok (.istore_n 2, 1) := by decide +kernel
theorem dX12_numberOf_52 : decode cX12_numberOf 52 = .ok (.iinc 6 1, 3) := by decide +kernel
theorem dX12_numberOf_55 : decode cX12_numberOf 55 = .ok (.goto (-30), 3) := by decide +kernel
theorem dX12_numberOf_58 : decode cX12_numberOf 58 = .ok (.iload_n 3, 1) := by decide +kernel
theorem dX12_numberOf_59 : decode cX12_numberOf 59 = .ok (.iload 5, 2) := by decide +kernel
theorem dX12_numberOf_61 : decode cX12_numberOf 61 = .ok (.isub, 1) := by decide +kernel
theorem dX12_numberOf_62 : decode cX12_numberOf 62 = .ok (.istore_n 3, 1) := by decide +kernel
theorem dX12_numberOf_63 : decode cX12_numberOf 63 = .ok (.iinc 4 (-1), 3) := by decide +kernel
theorem dX12_numberOf_66 : decode cX12_numberOf 66 = .ok (.goto (-57), 3) := by decide +kernel
theorem dX12_numberOf_69 : decode cX12_numberOf 69 = .ok (.iload_n 2, 1) := by decide +kernel
theorem dX12_numberOf_70 : decode cX12_numberOf 70 = .ok (.ireturn, 1) := by decide +kernel
theorem dX12_times_0 : decode cX12_times 0 = .ok (.lconst 0, 1) := by decide +kernel
theorem dX12_times_1 : decode cX12_times 1 = .ok (.lstore_n 2, 1) := by decide +kernel
theorem dX12_times_2 : decode cX12_times 2 = .ok (.iconst 0, 1) := by decide +kernel
theorem dX12_times_3 : decode cX12_times 3 = .ok (.istore 4, 2) := by decide +kernel
theorem dX12_times_5 : decode cX12_times 5 = .ok (.iload 4, 2) := by decide +kernel
theorem dX12_times_7 : decode cX12_times 7 = .ok (.aload_n 0, 1) := by decide +kernel
theorem dX12_times_8 : decode cX12_times 8 = .ok (.arraylength, 1) := by decide +kernel
theorem dX12_times_9 : decode cX12_times 9 = .ok (.if_icmp .ge 35, 3) := by decide +kernel
theorem dX12_times_12 : decode cX12_times 12 = .ok (.lload_n 2, 1) := by decide +kernel
theorem dX12_times_13 : decode cX12_times 13 = .ok (.aload_n 0, 1) := by decide +kernel
theorem dX12_times_14 : decode cX12_times 14 = .ok (.iload 4, 2) := by decide +kernel
theorem dX12_times_16 : decode cX12_times 16 = .ok (.iaload, 1) := by decide +kernel
theorem dX12_times_17 : decode cX12_times 17 = .ok (.i2l, 1) := by decide +kernel
theorem dX12_times_18 : decode cX12_times 18 = .ok (.iload_n 1, 1) := by decide +kernel
theorem dX12_times_19 : decode cX12_times 19 = .ok (.i2l, 1) := by decide +kernel
theorem dX12_times_20 : decode cX12_times 20 = .ok (.lmul, 1) := by decide +kernel
theorem dX12_times_21 : decode cX12_times 21 = .ok (.ladd, 1) := by decide +kernel
theorem dX12_times_22 : decode cX12_times 22 = .ok (.lstore_n 2, 1) := by decide +kernel
theorem dX12_times_23 : decode cX12_times 23 = .ok (.aload_n 0, 1) := by decide +kernel
theorem dX12_times_24 : decode cX12_times 24 = .ok (.iload 4, 2) := by decide +kernel
theorem dX12_times_26 : decode cX12_times 26 = .ok (.lload_n 2, 1) := by decide +kernel
theorem dX12_times_27 : decode cX12_times 27 = .ok (.ldc2_w 357, 3) := by decide +kernel
theorem dX12_times_30 : decode cX12_times 30 = .ok (.land, 1) := by decide +kernel
theorem dX12_times_31 : decode cX12_times 31 = .ok (.l2i, 1) := by decide +kernel
theorem dX12_times_32 : decode cX12_times 32 = .ok (.iastore, 1) := by decide +kernel
theorem dX12_times_33 : decode cX12_times 33 = .ok (.lload_n 2, 1) := by decide +kernel
theorem dX12_times_34 : decode cX12_times 34 = .ok (.bipush 28, 2) := by decide +kernel
theorem dX12_times_36 : decode cX12_times 36 = .ok (.lshr, 1) := by decide +kernel
theorem dX12_times_37 : decode cX12_times 37 = .ok (.lstore_n 2, 1) := by decide +kernel
theorem dX12_times_38 : decode cX12_times 38 = .ok (.iinc 4 1, 3) := by decide +kernel
theorem dX12_times_41 : decode cX12_times 41 = .ok (.goto (-36), 3) := by decide +kernel
theorem dX12_times_44 : decode cX12_times 44 = .ok (.return_, 1) := by decide +kernel
theorem dX12_over_0 : decode cX12_over 0 = .ok (.lconst 0, 1) := by decide +kernel
theorem dX12_over_1 : decode cX12_over 1 = .ok (.lstore_n 2, 1) := by decide +kernel
theorem dX12_over_2 : decode cX12_over 2 = .ok (.aload_n 0, 1) := by decide +kernel
theorem dX12_over_3 : decode cX12_over 3 = .ok (.arraylength, 1) := by decide +kernel
theorem dX12_over_4 : decode cX12_over 4 = .ok (.iconst 1, 1) := by decide +kernel
theorem dX12_over_5 : decode cX12_over 5 = .ok (.isub, 1) := by decide +kernel
theorem dX12_over_6 : decode cX12_over 6 = .ok (.istore 4, 2) := by decide +kernel
theorem dX12_over_8 : decode cX12_over 8 = .ok (.iload 4, 2) := by decide +kernel
theorem dX12_over_10 : decode cX12_over 10 = .ok (.ifCond .lt 34, 3) := by decide +kernel
theorem dX12_over_13 : decode cX12_over 13 = .ok (.lload_n 2, 1) := by decide +kernel
theorem dX12_over_14 : decode cX12_over 14 = .ok (.bipush 28, 2) := by decide +kernel
theorem dX12_over_16 : decode cX12_over 16 = .ok (.lshl, 1) := by decide +kernel
theorem dX12_over_17 : decode cX12_over 17 = .ok (.aload_n 0, 1) := by decide +kernel
theorem dX12_over_18 : decode cX12_over 18 = .ok (.iload 4, 2) := by decide +kernel
theorem dX12_over_20 : decode cX12_over 20 = .ok (.iaload, 1) := by decide +kernel
theorem dX12_over_21 : decode cX12_over 21 = .ok (.i2l, 1) := by decide +kernel
theorem dX12_over_22 : decode cX12_over 22 = .ok (.lor, 1) := by decide +kernel
theorem dX12_over_23 : decode cX12_over 23 = .ok (.lstore_n 2, 1) := by decide +kernel
theorem dX12_over_24 : decode cX12_over 24 = .ok (.aload_n 0, 1) := by decide +kernel
theorem dX12_over_25 : decode cX12_over 25 = .ok (.iload 4, 2) := by decide +kernel
theorem dX12_over_27 : decode cX12_over 27 = .ok (.lload_n 2, 1) := by decide +kernel
theorem dX12_over_28 : decode cX12_over 28 = .ok (.iload_n 1, 1) := by decide +kernel
theorem dX12_over_29 : decode cX12_over 29 = .ok (.i2l, 1) := by decide +kernel
theorem dX12_over_30 : decode cX12_over 30 = .ok (.ldiv, 1) := by decide +kernel
theorem dX12_over_31 : decode cX12_over 31 = .ok (.l2i, 1) := by decide +kernel
theorem dX12_over_32 : decode cX12_over 32 = .ok (.iastore, 1) := by decide +kernel
theorem dX12_over_33 : decode cX12_over 33 = .ok (.lload_n 2, 1) := by decide +kernel
theorem dX12_over_34 : decode cX12_over 34 = .ok (.iload_n 1, 1) := by decide +kernel
theorem dX12_over_35 : decode cX12_over 35 = .ok (.i2l, 1) := by decide +kernel
theorem dX12_over_36 : decode cX12_over 36 = .ok (.lrem, 1) := by decide +kernel
theorem dX12_over_37 : decode cX12_over 37 = .ok (.lstore_n 2, 1) := by decide +kernel
theorem dX12_over_38 : decode cX12_over 38 = .ok (.iinc 4 (-1), 3) := by decide +kernel
theorem dX12_over_41 : decode cX12_over 41 = .ok (.goto (-33), 3) := by decide +kernel
theorem dX12_over_44 : decode cX12_over 44 = .ok (.lload_n 2, 1) := by decide +kernel
theorem dX12_over_45 : decode cX12_over 45 = .ok (.l2i, 1) := by decide +kernel
theorem dX12_over_46 : decode cX12_over 46 = .ok (.ireturn, 1) := by decide +kernel
theorem dX12_addRolls_0 : decode cX12_addRolls 0 = .ok (.lconst 0, 1) := by decide +kernel
theorem dX12_addRolls_1 : decode cX12_addRolls 1 = .ok (.lstore_n 3, 1) := by decide +kernel
theorem dX12_addRolls_2 : decode cX12_addRolls 2 = .ok (.iconst 0, 1) := by decide +kernel
theorem dX12_addRolls_3 : decode cX12_addRolls 3 = .ok (.istore 5, 2) := by decide +kernel
theorem dX12_addRolls_5 : decode cX12_addRolls 5 = .ok (.iload 5, 2) := by decide +kernel
theorem dX12_addRolls_7 : decode cX12_addRolls 7 = .ok (.bipush 8, 2) := by decide +kernel
theorem dX12_addRolls_9 : decode cX12_addRolls 9 = .ok (.if_icmp .ge 55, 3) := by decide +kernel
theorem dX12_addRolls_12 : decode cX12_addRolls 12 = .ok (.lload_n 3, 1) := by decide +kernel
theorem dX12_addRolls_13 : decode cX12_addRolls 13 = .ok (.aload_n 0, 1) := by decide +kernel
theorem dX12_addRolls_14 : decode cX12_addRolls 14 = .ok (.getfield 97, 3) := by decide +kernel
theorem dX12_addRolls_17 : decode cX12_addRolls 17 = .ok (.iload 5, 2) := by decide +kernel
theorem dX12_addRolls_19 : decode cX12_addRolls 19 = .ok (.iaload, 1) := by decide +kernel
theorem dX12_addRolls_20 : decode cX12_addRolls 20 = .ok (.i2l, 1) := by decide +kernel
theorem dX12_addRolls_21 : decode cX12_addRolls 21 = .ok (.aload_n 0, 1) := by decide +kernel
theorem dX12_addRolls_22 : decode cX12_addRolls 22 = .ok (.getfield 80, 3) := by decide +kernel
theorem dX12_addRolls_25 : decode cX12_addRolls 25 = .ok (.bipush 8, 2) := by decide +kernel
theorem dX12_addRolls_27 : decode cX12_addRolls 27 = .ok (.iload_n 1, 1) := by decide +kernel
theorem dX12_addRolls_28 : decode cX12_addRolls 28 = .ok (.imul, 1) := by decide +kernel
theorem dX12_addRolls_29 : decode cX12_addRolls 29 = .ok (.iload 5, 2) := by decide +kernel
theorem dX12_addRolls_31 : decode cX12_addRolls 31 = .ok (.iadd, 1) := by decide +kernel
theorem dX12_addRolls_32 : decode cX12_addRolls 32 = .ok (.iaload, 1) := by decide +kernel
theorem dX12_addRolls_33 : decode cX12_addRolls 33 = .ok (.i2l, 1) := by decide +kernel
theorem dX12_addRolls_34 : decode cX12_addRolls 34 = .ok (.iload_n 2, 1) := by decide +kernel
theorem dX12_addRolls_35 : decode cX12_addRolls 35 = .ok (.i2l, 1) := by decide +kernel
theorem dX12_addRolls_36 : decode cX12_addRolls 36 = .ok (.lmul, 1) := by decide +kernel
theorem dX12_addRolls_37 : decode cX12_addRolls 37 = .ok (.ladd, 1) := by decide +kernel
theorem dX12_addRolls_38 : decode cX12_addRolls 38 = .ok (.ladd, 1) := by decide +kernel
theorem dX12_addRolls_39 : decode cX12_addRolls 39 = .ok (.lstore_n 3, 1) := by decide +kernel
theorem dX12_addRolls_40 : decode cX12_addRolls 40 = .ok (.aload_n 0, 1) := by decide +kernel
theorem dX12_addRolls_41 : decode cX12_addRolls 41 = .ok (.getfield 97, 3) := by decide +kernel
theorem dX12_addRolls_44 : decode cX12_addRolls 44 = .ok (.iload 5, 2) := by decide +kernel
theorem dX12_addRolls_46 : decode cX12_addRolls 46 = .ok (.lload_n 3, 1) := by decide +kernel
theorem dX12_addRolls_47 : decode cX12_addRolls 47 = .ok (.ldc2_w 357, 3) := by decide +kernel
theorem dX12_addRolls_50 : decode cX12_addRolls 50 = .ok (.land, 1) := by decide +kernel
theorem dX12_addRolls_51 : decode cX12_addRolls 51 = .ok (.l2i, 1) := by decide +kernel
theorem dX12_addRolls_52 : decode cX12_addRolls 52 = .ok (.iastore, 1) := by decide +kernel
theorem dX12_addRolls_53 : decode cX12_addRolls 53 = .ok (.lload_n 3, 1) := by decide +kernel
theorem dX12_addRolls_54 : decode cX12_addRolls 54 = .ok (.bipush 28, 2) := by decide +kernel
theorem dX12_addRolls_56 : decode cX12_addRolls 56 = .ok (.lshr, 1) := by decide +kernel
theorem dX12_addRolls_57 : decode cX12_addRolls 57 = .ok (.lstore_n 3, 1) := by decide +kernel
theorem dX12_addRolls_58 : decode cX12_addRolls 58 = .ok (.iinc 5 1, 3) := by decide +kernel
theorem dX12_addRolls_61 : decode cX12_addRolls 61 = .ok (.goto (-56), 3) := by decide +kernel
theorem dX12_addRolls_64 : decode cX12_addRolls 64 = .ok (.return_, 1) := by decide +kernel
theorem dX12_compareRolls_0 : decode cX12_compareRolls 0 = .ok (.bipush 7, 2) := by decide +kernel
theorem dX12_compareRolls_2 : decode cX12_compareRolls 2 = .ok (.istore_n 3, 1) := by decide +kernel
theorem dX12_compareRolls_3 : decode cX12_compareRolls 3 = .ok (.iload_n 3, 1) := by decide +kernel
theorem dX12_compareRolls_4 : decode cX12_compareRolls 4 = .ok (.ifCond .lt 42, 3) := by decide +kernel
theorem dX12_compareRolls_7 : decode cX12_compareRolls 7 = .ok (.aload_n 0, 1) := by decide +kernel
theorem dX12_compareRolls_8 : decode cX12_compareRolls 8 = .ok (.getfield 80, 3) := by decide +kernel
theorem dX12_compareRolls_11 : decode cX12_compareRolls 11 = .ok (.bipush 8, 2) := by decide +kernel
theorem dX12_compareRolls_13 : decode cX12_compareRolls 13 = .ok (.iload_n 1, 1) := by decide +kernel
theorem dX12_compareRolls_14 : decode cX12_compareRolls 14 = .ok (.imul, 1) := by decide +kernel
theorem dX12_compareRolls_15 : decode cX12_compareRolls 15 = .ok (.iload_n 3, 1) := by decide +kernel
theorem dX12_compareRolls_16 : decode cX12_compareRolls 16 = .ok (.iadd, 1) := by decide +kernel
theorem dX12_compareRolls_17 : decode cX12_compareRolls 17 = .ok (.iaload, 1) := by decide +kernel
theorem dX12_compareRolls_18 : decode cX12_compareRolls 18 = .ok (.aload_n 0, 1) := by decide +kernel
theorem dX12_compareRolls_19 : decode cX12_compareRolls 19 = .ok (.getfield 80, 3) := by decide +kernel
theorem dX12_compareRolls_22 : decode cX12_compareRolls 22 = .ok (.bipush 8, 2) := by decide +kernel
theorem dX12_compareRolls_24 : decode cX12_compareRolls 24 = .ok (.iload_n 2, 1) := by decide +kernel
theorem dX12_compareRolls_25 : decode cX12_compareRolls 25 = .ok (.imul, 1) := by decide +kernel
theorem dX12_compareRolls_26 : decode cX12_compareRolls 26 = .ok (.iload_n 3, 1) := by decide +kernel
theorem dX12_compareRolls_27 : decode cX12_compareRolls 27 = .ok (.iadd, 1) := by decide +kernel
theorem dX12_compareRolls_28 : decode cX12_compareRolls 28 = .ok (.iaload, 1) := by decide +kernel
theorem dX12_compareRolls_29 : decode cX12_compareRolls 29 = .ok (.isub, 1) := by decide +kernel
theorem dX12_compareRolls_30 : decode cX12_compareRolls 30 = .ok (.istore 4, 2) := by decide +kernel
theorem dX12_compareRolls_32 : decode cX12_compareRolls 32 = .ok (.iload 4, 2) := by decide +kernel
theorem dX12_compareRolls_34 : decode cX12_compareRolls 34 = .ok (.ifCond .eq 6, 3) := by decide +kernel
theorem dX12_compareRolls_37 : decode cX12_compareRolls 37 = .ok (.iload 4, 2) := by decide +kernel
theorem dX12_compareRolls_39 : decode cX12_compareRolls 39 = .ok (.ireturn, 1) := by decide +kernel
theorem dX12_compareRolls_40 : decode cX12_compareRolls 40 = .ok (.iinc 3 (-1), 3) := by decide +kernel
theorem dX12_compareRolls_43 : decode cX12_compareRolls 43 = .ok (.goto (-40), 3) := by decide +kernel
theorem dX12_compareRolls_46 : decode cX12_compareRolls 46 = .ok (.iconst 0, 1) := by decide +kernel
theorem dX12_compareRolls_47 : decode cX12_compareRolls 47 = .ok (.ireturn, 1) := by decide +kernel
theorem dX12_reach_0 : decode cX12_reach 0 = .ok (.iload_n 1, 1) := by decide +kernel
theorem dX12_reach_1 : decode cX12_reach 1 = .ok (.istore_n 3, 1) := by decide +kernel
theorem dX12_reach_2 : decode cX12_reach 2 = .ok (.iload_n 3, 1) := by decide +kernel
theorem dX12_reach_3 : decode cX12_reach 3 = .ok (.aload_n 0, 1) := by decide +kernel
theorem dX12_reach_4 : decode cX12_reach 4 = .ok (.getfield 359, 3) := by decide +kernel
theorem dX12_reach_7 : decode cX12_reach 7 = .ok (.if_icmp .ge 20, 3) := by decide +kernel
theorem dX12_reach_10 : decode cX12_reach 10 = .ok (.aload_n 0, 1) := by decide +kernel
theorem dX12_reach_11 : decode cX12_reach 11 = .ok (.getfield 100, 3) := by decide +kernel
theorem dX12_reach_14 : decode cX12_reach 14 = .ok (.iload_n 3, 1) := by decide +kernel
theorem dX12_reach_15 : decode cX12_reach 15 = .ok (.iaload, 1) := by decide +kernel
theorem dX12_reach_16 : decode cX12_reach 16 = .ok (.iload_n 2, 1) := by decide +kernel
theorem dX12_reach_17 : decode cX12_reach 17 = .ok (.if_icmp .ne 4, 3) := by decide +kernel
theorem dX12_reach_20 : decode cX12_reach 20 = .ok (.return_, 1) := by decide +kernel
theorem dX12_reach_21 : decode cX12_reach 21 = .ok (.iinc 3 1, 3) := by decide +kernel
theorem dX12_reach_24 : decode cX12_reach 24 = .ok (.goto (-22), 3) := by decide +kernel
theorem dX12_reach_27 : decode cX12_reach 27 = .ok (.aload_n 0, 1) := by decide +kernel
theorem dX12_reach_28 : decode cX12_reach 28 = .ok (.getfield 100, 3) := by decide +kernel
theorem dX12_reach_31 : decode cX12_reach 31 = .ok (.aload_n 0, 1) := by decide +kernel
theorem dX12_reach_32 : decode cX12_reach 32 = .ok (.getfield 359, 3) := by decide +kernel
theorem dX12_reach_35 : decode cX12_reach 35 = .ok (.iload_n 2, 1) := by decide +kernel
theorem dX12_reach_36 : decode cX12_reach 36 = .ok (.iastore, 1) := by decide +kernel
theorem dX12_reach_37 : decode cX12_reach 37 = .ok (.aload_n 0, 1) := by decide +kernel
theorem dX12_reach_38 : decode cX12_reach 38 = .ok (.dup, 1) := by decide +kernel
theorem dX12_reach_39 : decode cX12_reach 39 = .ok (.getfield 359, 3) := by decide +kernel
theorem dX12_reach_42 : decode cX12_reach 42 = .ok (.iconst 1, 1) := by decide +kernel
theorem dX12_reach_43 : decode cX12_reach 43 = .ok (.iadd, 1) := by decide +kernel
theorem dX12_reach_44 : decode cX12_reach 44 = .ok (.putfield 359, 3) := by decide +kernel
theorem dX12_reach_47 : decode cX12_reach 47 = .ok (.return_, 1) := by decide +kernel
theorem dX12_moveAll_0 : decode cX12_moveAll 0 = .ok (.iload_n 1, 1) := by decide +kernel
theorem dX12_moveAll_1 : decode cX12_moveAll 1 = .ok (.istore 5, 2) := by decide +kernel
theorem dX12_moveAll_3 : decode cX12_moveAll 3 = .ok (.iload 5, 2) := by decide +kernel
theorem dX12_moveAll_5 : decode cX12_moveAll 5 = .ok (.iload_n 2, 1) := by decide +kernel
theorem dX12_moveAll_6 : decode cX12_moveAll 6 = .ok (.if_icmp .ge 112, 3) := by decide +kernel
theorem dX12_moveAll_9 : decode cX12_moveAll 9 = .ok (.aload_n 0, 1) := by decide +kernel
theorem dX12_moveAll_10 : decode cX12_moveAll 10 = .ok (.getfield 100, 3) := by decide +kernel
theorem dX12_moveAll_13 : decode cX12_moveAll 13 = .ok (.iload 5, 2) := by decide +kernel
theorem dX12_moveAll_15 : decode cX12_moveAll 15 = .ok (.iaload, 1) := by decide +kernel
theorem dX12_moveAll_16 : decode cX12_moveAll 16 = .ok (.istore 6, 2) := by decide +kernel
theorem dX12_moveAll_18 : decode cX12_moveAll 18 = .ok (.iconst 0, 1) := by decide +kernel
theorem dX12_moveAll_19 : decode cX12_moveAll 19 = .ok (.istore 7, 2) := by decide +kernel
theorem dX12_moveAll_21 : decode cX12_moveAll 21 = .ok (.bipush 6, 2) := by decide +kernel
theorem dX12_moveAll_23 : decode cX12_moveAll 23 = .ok (.istore 8, 2) := by decide +kernel
theorem dX12_moveAll_25 : decode cX12_moveAll 25 = .ok (.iload 8, 2) := by decide +kernel
theorem dX12_moveAll_27 : decode cX12_moveAll 27 = .ok (.ifCond .le 85, 3) := by decide +kernel
theorem dX12_moveAll_30 : decode cX12_moveAll 30 = .ok (.iload 6, 2) := by decide +kernel
theorem dX12_moveAll_32 : decode cX12_moveAll 32 = .ok (.iload 8, 2) := by decide +kernel
theorem dX12_moveAll_34 : decode cX12_moveAll 34 = .ok (.invokestatic 344, 3) := by decide +kernel
theorem dX12_moveAll_37 : decode cX12_moveAll 37 = .ok (.ifCond .ne 6, 3) := by decide +kernel
theorem dX12_moveAll_40 : decode cX12_moveAll 40 = .ok (.goto 66, 3) := by decide +kernel
theorem dX12_moveAll_43 : decode cX12_moveAll 43 = .ok (.iload 6, 2) := by decide +kernel
theorem dX12_moveAll_45 : decode cX12_moveAll 45 = .ok (.iconst 1, 1) := by decide +kernel
theorem dX12_moveAll_46 : decode cX12_moveAll 46 = .ok (.iconst 4, 1) := by decide +kernel
theorem dX12_moveAll_47 : decode cX12_moveAll 47 = .ok (.iload 8, 2) := by decide +kernel
theorem dX12_moveAll_49 : decode cX12_moveAll 49 = .ok (.iconst 1, 1) := by decide +kernel
theorem dX12_moveAll_50 : decode cX12_moveAll 50 = .ok (.isub, 1) := by decide +kernel
theorem dX12_moveAll_51 : decode cX12_moveAll 51 = .ok (.imul, 1) := by decide +kernel
theorem dX12_moveAll_52 : decode cX12_moveAll 52 = .ok (.ishl, 1) := by decide +kernel
theorem dX12_moveAll_53 : decode cX12_moveAll 53 = .ok (.isub, 1) := by decide +kernel
theorem dX12_moveAll_54 : decode cX12_moveAll 54 = .ok (.istore 9, 2) := by decide +kernel
theorem dX12_moveAll_56 : decode cX12_moveAll 56 = .ok (.iload 8, 2) := by decide +kernel
theorem dX12_moveAll_58 : decode cX12_moveAll 58 = .ok (.iload_n 3, 1) := by decide +kernel
theorem dX12_moveAll_59 : decode cX12_moveAll 59 = .ok (.if_icmp .le 25, 3) := by decide +kernel
theorem dX12_moveAll_62 : decode cX12_moveAll 62 = .ok (.aload_n 0, 1) := by decide +kernel
theorem dX12_moveAll_63 : decode cX12_moveAll 63 = .ok (.iload 4, 2) := by decide +kernel
theorem dX12_moveAll_65 : decode cX12_moveAll 65 = .ok (.iload 9, 2) := by decide +kernel
theorem dX12_moveAll_67 : decode cX12_moveAll 67 = .ok (.iconst 1, 1) := by decide +kernel
theorem dX12_moveAll_68 : decode cX12_moveAll 68 = .ok (.iconst 4, 1) := by decide +kernel
theorem dX12_moveAll_69 : decode cX12_moveAll 69 = .ok (.iload 8, 2) := by decide +kernel
theorem dX12_moveAll_71 : decode cX12_moveAll 71 = .ok (.iload_n 3, 1) := by decide +kernel
theorem dX12_moveAll_72 : decode cX12_moveAll 72 = .ok (.isub, 1) := by decide +kernel
theorem dX12_moveAll_73 : decode cX12_moveAll 73 = .ok (.iconst 1, 1) := by decide +kernel
theorem dX12_moveAll_74 : decode cX12_moveAll 74 = .ok (.isub, 1) := by decide +kernel
theorem dX12_moveAll_75 : decode cX12_moveAll 75 = .ok (.imul, 1) := by decide +kernel
theorem dX12_moveAll_76 : decode cX12_moveAll 76 = .ok (.ishl, 1) := by decide +kernel
theorem dX12_moveAll_77 : decode cX12_moveAll 77 = .ok (.iadd, 1) := by decide +kernel
theorem dX12_moveAll_78 : decode cX12_moveAll 78 = .ok (.invokevirtual 362, 3) := by decide +kernel
theorem dX12_moveAll_81 : decode cX12_moveAll 81 = .ok (.goto 22, 3) := by decide +kernel
theorem dX12_moveAll_84 : decode cX12_moveAll 84 = .ok (.iload 8, 2) := by decide +kernel
theorem dX12_moveAll_86 : decode cX12_moveAll 86 = .ok (.iload_n 3, 1) := by decide +kernel
theorem dX12_moveAll_87 : decode cX12_moveAll 87 = .ok (.if_icmp .eq 8, 3) := by decide +kernel
theorem dX12_moveAll_90 : decode cX12_moveAll 90 = .ok (.iload 7, 2) := by decide +kernel
theorem dX12_moveAll_92 : decode cX12_moveAll 92 = .ok (.ifCond .ne 11, 3) := by decide +kernel
theorem dX12_moveAll_95 : decode cX12_moveAll 95 = .ok (.aload_n 0, 1) := by decide +kernel
theorem dX12_moveAll_96 : decode cX12_moveAll 96 = .ok (.iload 4, 2) := by decide +kernel
theorem dX12_moveAll_98 : decode cX12_moveAll 98 = .ok (.iload 9, 2) := by decide +kernel
theorem dX12_moveAll_100 : decode cX12_moveAll 100 = .ok (.invokevirtual 362, 3) := by decide +kernel
theorem dX12_moveAll_103 : decode cX12_moveAll 103 = .ok (.iconst 1, 1) := by decide +kernel
theorem dX12_moveAll_104 : decode cX12_moveAll 104 = .ok (.istore 7, 2) := by decide +kernel
theorem dX12_moveAll_106 : decode cX12_moveAll 106 = .ok (.iinc 8 (-1), 3) := by decide +kernel
theorem dX12_moveAll_109 : decode cX12_moveAll 109 = .ok (.goto (-84), 3) := by decide +kernel
theorem dX12_moveAll_112 : decode cX12_moveAll 112 = .ok (.iinc 5 1, 3) := by decide +kernel
theorem dX12_moveAll_115 : decode cX12_moveAll 115 = .ok (.goto (-112), 3) := by decide +kernel
theorem dX12_moveAll_118 : decode cX12_moveAll 118 = .ok (.return_, 1) := by decide +kernel
theorem dX12_standResults_0 : decode cX12_standResults 0 = .ok (.aload_n 0, 1) := by decide +kernel
theorem dX12_standResults_1 : decode cX12_standResults 1 = .ok (.getfield 100, 3) := by decide +kernel
theorem dX12_standResults_4 : decode cX12_standResults 4 = .ok (.iconst 0, 1) := by decide +kernel
theorem dX12_standResults_5 : decode cX12_standResults 5 = .ok (.iload_n 1, 1) := by decide +kernel
theorem dX12_standResults_6 : decode cX12_standResults 6 = .ok (.iastore, 1) := by decide +kernel
theorem dX12_standResults_7 : decode cX12_standResults 7 = .ok (.aload_n 0, 1) := by decide +kernel
theorem dX12_standResults_8 : decode cX12_standResults 8 = .ok (.iconst 1, 1) := by decide +kernel
theorem dX12_standResults_9 : decode cX12_standResults 9 = .ok (.putfield 359, 3) := by decide +kernel
theorem dX12_standResults_12 : decode cX12_standResults 12 = .ok (.iconst 0, 1) := by decide +kernel
theorem dX12_standResults_13 : decode cX12_standResults 13 = .ok (.istore 4, 2) := by decide +kernel
theorem dX12_standResults_15 : decode cX12_standResults 15 = .ok (.iload_n 2, 1) := by decide +kernel
theorem dX12_standResults_16 : decode cX12_standResults 16 = .ok (.iload_n 3, 1) := by decide +kernel
theorem dX12_standResults_17 : decode cX12_standResults 17 = .ok (.if_icmp .ne 51, 3) := by decide +kernel
theorem dX12_standResults_20 : decode cX12_standResults 20 = .ok (.iconst 0, 1) := by decide +kernel
theorem dX12_standResults_21 : decode cX12_standResults 21 = .ok (.istore 5, 2) := by decide +kernel
theorem dX12_standResults_23 : decode cX12_standResults 23 = .ok (.iload 5, 2) := by decide +kernel
theorem dX12_standResults_25 : decode cX12_standResults 25 = .ok (.iconst 4, 1) := by decide +kernel
theorem dX12_standResults_26 : decode cX12_standResults 26 = .ok (.if_icmp .ge 39, 3) := by decide +kernel
theorem dX12_standResults_29 : decode cX12_standResults 29 = .ok (.aload_n 0, 1) := by decide +kernel
theorem dX12_standResults_30 : decode cX12_standResults 30 = .ok (.getfield 359, 3) := by decide +kernel
theorem dX12_standResults_33 : decode cX12_standResults 33 = .ok (.istore 6, 2) := by decide +kernel
theorem dX12_standResults_35 : decode cX12_standResults 35 = .ok (.aload_n 0, 1) := by decide +kernel
theorem dX12_standResults_36 : decode cX12_standResults 36 = .ok (.iload 4, 2) := by decide +kernel
theorem dX12_standResults_38 : decode cX12_standResults 38 = .ok (.iload 6, 2) := by decide +kernel
theorem dX12_standResults_40 : decode cX12_standResults 40 = .ok (.iload_n 2, 1) := by decide +kernel
theorem dX12_standResults_41 : decode cX12_standResults 41 = .ok (.iload 6, 2) := by decide +kernel
theorem dX12_standResults_43 : decode cX12_standResults 43 = .ok (.invokevirtual 365, 3) := by decide +kernel
theorem dX12_standResults_46 : decode cX12_standResults 46 = .ok (.aload_n 0, 1) := by decide +kernel
theorem dX12_standResults_47 : decode cX12_standResults 47 = .ok (.getfield 359, 3) := by decide +kernel
theorem dX12_standResults_50 : decode cX12_standResults 50 = .ok (.iload 6, 2) := by decide +kernel
theorem dX12_standResults_52 : decode cX12_standResults 52 = .ok (.if_icmp .le 7, 3) := by decide +kernel
theorem dX12_standResults_55 : decode cX12_standResults 55 = .ok (.iload 6, 2) := by decide +kernel
theorem dX12_standResults_57 : decode cX12_standResults 57 = .ok (.istore 4, 2) := by decide +kernel
theorem dX12_standResults_59 : decode cX12_standResults 59 = .ok (.iinc 5 1, 3) := by decide +kernel
theorem dX12_standResults_62 : decode cX12_standResults 62 = .ok (.goto (-39), 3) := by decide +kernel
theorem dX12_standResults_65 : decode cX12_standResults 65 = .ok (.iload 4, 2) := by decide +kernel
theorem dX12_standResults_67 : decode cX12_standResults 67 = .ok (.ireturn, 1) := by decide +kernel
theorem dX12_standResults_68 : decode cX12_standResults 68 = .ok (.iload_n 2, 1) := by decide +kernel
theorem dX12_standResults_69 : decode cX12_standResults 69 = .ok (.iload_n 3, 1) := by decide +kernel
theorem dX12_standResults_70 : decode cX12_standResults 70 = .ok (.if_icmp .le 7, 3) := by decide +kernel
theorem dX12_standResults_73 : decode cX12_standResults 73 = .ok (.iload_n 2, 1) := by decide +kernel
theorem dX12_standResults_74 : decode cX12_standResults 74 = .ok (.goto 4, 3) := by decide +kernel
theorem dX12_standResults_77 : decode cX12_standResults 77 = .ok (.iload_n 3, 1) := by decide +kernel
theorem dX12_standResults_78 : decode cX12_standResults 78 = .ok (.istore 5, 2) := by decide +kernel
theorem dX12_standResults_80 : decode cX12_standResults 80 = .ok (.iload_n 2, 1) := by decide +kernel
theorem dX12_standResults_81 : decode cX12_standResults 81 = .ok (.iload_n 3, 1) := by decide +kernel
theorem dX12_standResults_82 : decode cX12_standResults 82 = .ok (.if_icmp .le 7, 3) := by decide +kernel
theorem dX12_standResults_85 : decode cX12_standResults 85 = .ok (.iload_n 3, 1) := by decide +kernel
theorem dX12_standResults_86 : decode cX12_standResults 86 = .ok (.goto 4, 3) := by decide +kernel
theorem dX12_standResults_89 : decode cX12_standResults 89 = .ok (.iload_n 2, 1) := by decide +kernel
theorem dX12_standResults_90 : decode cX12_standResults 90 = .ok (.istore 6, 2) := by decide +kernel
theorem dX12_standResults_92 : decode cX12_standResults 92 = .ok (.aload_n 0, 1) := by decide +kernel
theorem dX12_standResults_93 : decode cX12_standResults 93 = .ok (.iconst 0, 1) := by decide +kernel
theorem dX12_standResults_94 : decode cX12_standResults 94 = .ok (.iconst 1, 1) := by decide +kernel
theorem dX12_standResults_95 : decode cX12_standResults 95 = .ok (.iload 5, 2) := by decide +kernel
theorem dX12_standResults_97 : decode cX12_standResults 97 = .ok (.iconst 1, 1) := by decide +kernel
theorem dX12_standResults_98 : decode cX12_standResults 98 = .ok (.invokevirtual 365, 3) := by decide +kernel
theorem dX12_standResults_101 : decode cX12_standResults 101 = .ok (.aload_n 0, 1) := by decide +kernel
theorem dX12_standResults_102 : decode cX12_standResults 102 = .ok (.getfield 359, 3) := by decide +kernel
theorem dX12_standResults_105 : decode cX12_standResults 105 = .ok (.istore 7, 2) := by decide +kernel
theorem dX12_standResults_107 : decode cX12_standResults 107 = .ok (.aload_n 0, 1) := by decide +kernel
theorem dX12_standResults_108 : decode cX12_standResults 108 = .ok (.iconst 0, 1) := by decide +kernel
theorem dX12_standResults_109 : decode cX12_standResults 109 = .ok (.iconst 1, 1) := by decide +kernel
theorem dX12_standResults_110 : decode cX12_standResults 110 = .ok (.iload 6, 2) := by decide +kernel
theorem dX12_standResults_112 : decode cX12_standResults 112 = .ok (.iload 7, 2) := by decide +kernel
theorem dX12_standResults_114 : decode cX12_standResults 114 = .ok (.invokevirtual 365, 3) := by decide +kernel
theorem dX12_standResults_117 : decode cX12_standResults 117 = .ok (.aload_n 0, 1) := by decide +kernel
theorem dX12_standResults_118 : decode cX12_standResults 118 = .ok (.getfield 359, 3) := by decide +kernel
theorem dX12_standResults_121 : decode cX12_standResults 121 = .ok (.istore 8, 2) := by decide +kernel
theorem dX12_standResults_123 : decode cX12_standResults 123 = .ok (.aload_n 0, 1) := by decide +kernel
theorem dX12_standResults_124 : decode cX12_standResults 124 = .ok (.iconst 1, 1) := by decide +kernel
theorem dX12_standResults_125 : decode cX12_standResults 125 = .ok (.iload 7, 2) := by decide +kernel
theorem dX12_standResults_127 : decode cX12_standResults 127 = .ok (.iload 6, 2) := by decide +kernel
theorem dX12_standResults_129 : decode cX12_standResults 129 = .ok (.iload 8, 2) := by decide +kernel
theorem dX12_standResults_131 : decode cX12_standResults 131 = .ok (.invokevirtual 365, 3) := by decide +kernel
theorem dX12_standResults_134 : decode cX12_standResults 134 = .ok (.aload_n 0, 1) := by decide +kernel
theorem dX12_standResults_135 : decode cX12_standResults 135 = .ok (.iload 7, 2) := by decide +kernel
theorem dX12_standResults_137 : decode cX12_standResults 137 = .ok (.iload 8, 2) := by decide +kernel
theorem dX12_standResults_139 : decode cX12_standResults 139 = .ok (.iload 5, 2) := by decide +kernel
theorem dX12_standResults_141 : decode cX12_standResults 141 = .ok (.iload 8, 2) := by decide +kernel
theorem dX12_standResults_143 : decode cX12_standResults 143 = .ok (.invokevirtual 365, 3) := by decide +kernel
theorem dX12_standResults_146 : decode cX12_standResults 146 = .ok (.aload_n 0, 1) := by decide +kernel
theorem dX12_standResults_147 : decode cX12_standResults 147 = .ok (.getfield 359, 3) := by decide +kernel
theorem dX12_standResults_150 : decode cX12_standResults 150 = .ok (.iload 8, 2) := by decide +kernel
theorem dX12_standResults_152 : decode cX12_standResults 152 = .ok (.if_icmp .le 6, 3) := by decide +kernel
theorem dX12_standResults_155 : decode cX12_standResults 155 = .ok (.iload 8, 2) := by decide +kernel
theorem dX12_standResults_157 : decode cX12_standResults 157 = .ok (.ireturn, 1) := by decide +kernel
theorem dX12_standResults_158 : decode cX12_standResults 158 = .ok (.aload_n 0, 1) := by decide +kernel
theorem dX12_standResults_159 : decode cX12_standResults 159 = .ok (.iload 7, 2) := by decide +kernel
theorem dX12_standResults_161 : decode cX12_standResults 161 = .ok (.putfield 359, 3) := by decide +kernel
theorem dX12_standResults_164 : decode cX12_standResults 164 = .ok (.iload 7, 2) := by decide +kernel
theorem dX12_standResults_166 : decode cX12_standResults 166 = .ok (.iconst 1, 1) := by decide +kernel
theorem dX12_standResults_167 : decode cX12_standResults 167 = .ok (.if_icmp .le 7, 3) := by decide +kernel
theorem dX12_standResults_170 : decode cX12_standResults 170 = .ok (.iconst 1, 1) := by decide +kernel
theorem dX12_standResults_171 : decode cX12_standResults 171 = .ok (.goto 4, 3) := by decide +kernel
theorem dX12_standResults_174 : decode cX12_standResults 174 = .ok (.iconst 0, 1) := by decide +kernel
theorem dX12_standResults_175 : decode cX12_standResults 175 = .ok (.ireturn, 1) := by decide +kernel
theorem dX12_diceNumber_0 : decode cX12_diceNumber 0 = .ok (.iload_n 0, 1) := by decide +kernel
theorem dX12_diceNumber_1 : decode cX12_diceNumber 1 = .ok (.iload_n 1, 1) := by decide +kernel
theorem dX12_diceNumber_2 : decode cX12_diceNumber 2 = .ok (.if_icmp .le 17, 3) := by decide +kernel
theorem dX12_diceNumber_5 : decode cX12_diceNumber 5 = .ok (.iload_n 0, 1) := by decide +kernel
theorem dX12_diceNumber_6 : decode cX12_diceNumber 6 = .ok (.iload_n 0, 1) := by decide +kernel
theorem dX12_diceNumber_7 : decode cX12_diceNumber 7 = .ok (.iconst 1, 1) := by decide +kernel
theorem dX12_diceNumber_8 : decode cX12_diceNumber 8 = .ok (.isub, 1) := by decide +kernel
theorem dX12_diceNumber_9 : decode cX12_diceNumber 9 = .ok (.imul, 1) := by decide +kernel
theorem dX12_diceNumber_10 : decode cX12_diceNumber 10 = .ok (.iconst 2, 1) := by decide +kernel
theorem dX12_diceNumber_11 : decode cX12_diceNumber 11 = .ok (.idiv, 1) := by decide +kernel
theorem dX12_diceNumber_12 : decode cX12_diceNumber 12 = .ok (.iload_n 1, 1) := by decide +kernel
theorem dX12_diceNumber_13 : decode cX12_diceNumber 13 = .ok (.iadd, 1) := by decide +kernel
theorem dX12_diceNumber_14 : decode cX12_diceNumber 14 = .ok (.iconst 1, 1) := by decide +kernel
theorem dX12_diceNumber_15 : decode cX12_diceNumber 15 = .ok (.isub, 1) := by decide +kernel
theorem dX12_diceNumber_16 : decode cX12_diceNumber 16 = .ok (.goto 14, 3) := by decide +kernel
theorem dX12_diceNumber_19 : decode cX12_diceNumber 19 = .ok (.iload_n 1, 1) := by decide +kernel
theorem dX12_diceNumber_20 : decode cX12_diceNumber 20 = .ok (.iload_n 1, 1) := by decide +kernel
theorem dX12_diceNumber_21 : decode cX12_diceNumber 21 = .ok (.iconst 1, 1) := by decide +kernel
theorem dX12_diceNumber_22 : decode cX12_diceNumber 22 = .ok (.isub, 1) := by decide +kernel
theorem dX12_diceNumber_23 : decode cX12_diceNumber 23 = .ok (.imul, 1) := by decide +kernel
theorem dX12_diceNumber_24 : decode cX12_diceNumber 24 = .ok (.iconst 2, 1) := by decide +kernel
theorem dX12_diceNumber_25 : decode cX12_diceNumber 25 = .ok (.idiv, 1) := by decide +kernel
theorem dX12_diceNumber_26 : decode cX12_diceNumber 26 = .ok (.iload_n 0, 1) := by decide +kernel
theorem dX12_diceNumber_27 : decode cX12_diceNumber 27 = .ok (.iadd, 1) := by decide +kernel
theorem dX12_diceNumber_28 : decode cX12_diceNumber 28 = .ok (.iconst 1, 1) := by decide +kernel
theorem dX12_diceNumber_29 : decode cX12_diceNumber 29 = .ok (.isub, 1) := by decide +kernel
theorem dX12_diceNumber_30 : decode cX12_diceNumber 30 = .ok (.ireturn, 1) := by decide +kernel
theorem dX12_learn_0 : decode cX12_learn 0 = .ok (.aload_n 0, 1) := by decide +kernel
theorem dX12_learn_1 : decode cX12_learn 1 = .ok (.iconst 0, 1) := by decide +kernel
theorem dX12_learn_2 : decode cX12_learn 2 = .ok (.putfield 1, 3) := by decide +kernel
theorem dX12_learn_5 : decode cX12_learn 5 = .ok (.aload_n 0, 1) := by decide +kernel
theorem dX12_learn_6 : decode cX12_learn 6 = .ok (.aload_n 0, 1) := by decide +kernel
theorem dX12_learn_7 : decode cX12_learn 7 = .ok (.getfield 173, 3) := by decide +kernel
theorem dX12_learn_10 : decode cX12_learn 10 = .ok (.bipush 90, 2) := by decide +kernel
theorem dX12_learn_12 : decode cX12_learn 12 = .ok (.if_icmp .ge 7, 3) := by decide +kernel
theorem dX12_learn_15 : decode cX12_learn 15 = .ok (.iconst 1, 1) := by decide +kernel
theorem dX12_learn_16 : decode cX12_learn 16 = .ok (.goto 4, 3) := by decide +kernel
theorem dX12_learn_19 : decode cX12_learn 19 = .ok (.iconst 0, 1) := by decide +kernel
theorem dX12_learn_20 : decode cX12_learn 20 = .ok (.iconst 1, 1) := by decide +kernel
theorem dX12_learn_21 : decode cX12_learn 21 = .ok (.invokevirtual 155, 3) := by decide +kernel
theorem dX12_learn_24 : decode cX12_learn 24 = .ok (.ifCond .ne 5, 3) := by decide +kernel
theorem dX12_learn_27 : decode cX12_learn 27 = .ok (.iconst 0, 1) := by decide +kernel
theorem dX12_learn_28 : decode cX12_learn 28 = .ok (.ireturn, 1) := by decide +kernel
theorem dX12_learn_29 : decode cX12_learn 29 = .ok (.aload_n 0, 1) := by decide +kernel
theorem dX12_learn_30 : decode cX12_learn 30 = .ok (.invokevirtual 369, 3) := by decide +kernel
theorem dX12_learn_33 : decode cX12_learn 33 = .ok (.aload_n 0, 1) := by decide +kernel
theorem dX12_learn_34 : decode cX12_learn 34 = .ok (.getfield 173, 3) := by decide +kernel
theorem dX12_learn_37 : decode cX12_learn 37 = .ok (.iconst 1, 1) := by decide +kernel
theorem dX12_learn_38 : decode cX12_learn 38 = .ok (.iadd, 1) := by decide +kernel
theorem dX12_learn_39 : decode cX12_learn 39 = .ok (.istore_n 1, 1) := by decide +kernel
theorem dX12_learn_40 : decode cX12_learn 40 = .ok (.iconst 0, 1) := by decide +kernel
theorem dX12_learn_41 : decode cX12_learn 41 = .ok (.istore_n 2, 1) := by decide +kernel
theorem dX12_learn_42 : decode cX12_learn 42 = .ok (.iconst 0, 1) := by decide +kernel
theorem dX12_learn_43 : decode cX12_learn 43 = .ok (.istore_n 3, 1) := by decide +kernel
theorem dX12_learn_44 : decode cX12_learn 44 = .ok (.iload_n 3, 1) := by decide +kernel
theorem dX12_learn_45 : decode cX12_learn 45 = .ok (.bipush 15, 2) := by decide +kernel
theorem dX12_learn_47 : decode cX12_learn 47 = .ok (.if_icmp .gt 257, 3) := by decide +kernel
theorem dX12_learn_50 : decode cX12_learn 50 = .ok (.bipush 6, 2) := by decide +kernel
theorem dX12_learn_52 : decode cX12_learn 52 = .ok (.iload_n 3, 1) := by decide +kernel
theorem dX12_learn_53 : decode cX12_learn 53 = .ok (.imul, 1) := by decide +kernel
theorem dX12_learn_54 : decode cX12_learn 54 = .ok (.iload_n 1, 1) := by decide +kernel
theorem dX12_learn_55 : decode cX12_learn 55 = .ok (.if_icmp .gt 249, 3) := by decide +kernel
theorem dX12_learn_58 : decode cX12_learn 58 = .ok (.iconst 0, 1) := by decide +kernel
theorem dX12_learn_59 : decode cX12_learn 59 = .ok (.istore 4, 2) := by decide +kernel
theorem dX12_learn_61 : decode cX12_learn 61 = .ok (.iload 4, 2) := by decide +kernel
theorem dX12_learn_63 : decode cX12_learn 63 = .ok (.iload_n 3, 1) := by decide +kernel
theorem dX12_learn_64 : decode cX12_learn 64 = .ok (.iadd, 1) := by decide +kernel
theorem dX12_learn_65 : decode cX12_learn 65 = .ok (.bipush 15, 2) := by decide +kernel
theorem dX12_learn_67 : decode cX12_learn 67 = .ok (.if_icmp .gt 231, 3) := by decide +kernel
theorem dX12_learn_70 : decode cX12_learn 70 = .ok (.bipush 6, 2) := by decide +kernel
theorem dX12_learn_72 : decode cX12_learn 72 = .ok (.iload_n 3, 1) := by decide +kernel
theorem dX12_learn_73 : decode cX12_learn 73 = .ok (.imul, 1) := by decide +kernel
theorem dX12_learn_74 : decode cX12_learn 74 = .ok (.iconst 5, 1) := by decide +kernel
theorem dX12_learn_75 : decode cX12_learn 75 = .ok (.iload 4, 2) := by decide +kernel
theorem dX12_learn_77 : decode cX12_learn 77 = .ok (.imul, 1) := by decide +kernel
theorem dX12_learn_78 : decode cX12_learn 78 = .ok (.iadd, 1) := by decide +kernel
theorem dX12_learn_79 : decode cX12_learn 79 = .ok (.iload_n 1, 1) := by decide +kernel
theorem dX12_learn_80 : decode cX12_learn 80 = .ok (.if_icmp .gt 218, 3) := by decide +kernel
theorem dX12_learn_83 : decode cX12_learn 83 = .ok (.iconst 0, 1) := by decide +kernel
theorem dX12_learn_84 : decode cX12_learn 84 = .ok (.istore 5, 2) := by decide +kernel
theorem dX12_learn_86 : decode cX12_learn 86 = .ok (.iload 5, 2) := by decide +kernel
theorem dX12_learn_88 : decode cX12_learn 88 = .ok (.iload 4, 2) := by decide +kernel
theorem dX12_learn_90 : decode cX12_learn 90 = .ok (.iadd, 1) := by decide +kernel
theorem dX12_learn_91 : decode cX12_learn 91 = .ok (.iload_n 3, 1) := by decide +kernel
theorem dX12_learn_92 : decode cX12_learn 92 = .ok (.iadd, 1) := by decide +kernel
theorem dX12_learn_93 : decode cX12_learn 93 = .ok (.bipush 15, 2) := by decide +kernel
theorem dX12_learn_95 : decode cX12_learn 95 = .ok (.if_icmp .gt 197, 3) := by decide +kernel
theorem dX12_learn_98 : decode cX12_learn 98 = .ok (.bipush 6, 2) := by decide +kernel
theorem dX12_learn_100 : decode cX12_learn 100 = .ok (.iload_n 3, 1) := by decide +kernel
theorem dX12_learn_101 : decode cX12_learn 101 = .ok (.imul, 1) := by decide +kernel
theorem dX12_learn_102 : decode cX12_learn 102 = .ok (.iconst 5, 1) := by decide +kernel
theorem dX12_learn_103 : decode cX12_learn 103 = .ok (.iload 4, 2) := by decide +kernel
theorem dX12_learn_105 : decode cX12_learn 105 = .ok (.imul, 1) := by decide +kernel
theorem dX12_learn_106 : decode cX12_learn 106 = .ok (.iadd, 1) := by decide +kernel
theorem dX12_learn_107 : decode cX12_learn 107 = .ok (.iconst 4, 1) := by decide +kernel
theorem dX12_learn_108 : decode cX12_learn 108 = .ok (.iload 5, 2) := by decide +kernel
theorem dX12_learn_110 : decode cX12_learn 110 = .ok (.imul, 1) := by decide +kernel
theorem dX12_learn_111 : decode cX12_learn 111 = .ok (.iadd, 1) := by decide +kernel
theorem dX12_learn_112 : decode cX12_learn 112 = .ok (.iload_n 1, 1) := by decide +kernel
theorem dX12_learn_113 : decode cX12_learn 113 = .ok (.if_icmp .gt 179, 3) := by decide +kernel
theorem dX12_learn_116 : decode cX12_learn 116 = .ok (.iconst 0, 1) := by decide +kernel
theorem dX12_learn_117 : decode cX12_learn 117 = .ok (.istore 6, 2) := by decide +kernel
theorem dX12_learn_119 : decode cX12_learn 119 = .ok (.iload 6, 2) := by decide +kernel
theorem dX12_learn_121 : decode cX12_learn 121 = .ok (.iload 5, 2) := by decide +kernel
theorem dX12_learn_123 : decode cX12_learn 123 = .ok (.iadd, 1) := by decide +kernel
