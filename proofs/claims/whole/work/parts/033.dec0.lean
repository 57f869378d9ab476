theorem dX12_init_0 : decode cX12_init 0 = .ok (.aload_n 0, 1) := by decide +kernel
theorem dX12_init_1 : decode cX12_init 1 = .ok (.invokespecial 1, 3) := by decide +kernel
theorem dX12_init_4 : decode cX12_init 4 = .ok (.aload_n 0, 1) := by decide +kernel
theorem dX12_init_5 : decode cX12_init 5 = .ok (.iconst (-1), 1) := by decide +kernel
theorem dX12_init_6 : decode cX12_init 6 = .ok (.putfield 9, 3) := by decide +kernel
theorem dX12_init_9 : decode cX12_init 9 = .ok (.aload_n 0, 1) := by decide +kernel
theorem dX12_init_10 : decode cX12_init 10 = .ok (.bipush 8, 2) := by decide +kernel
theorem dX12_init_12 : decode cX12_init 12 = .ok (.newarray .int, 2) := by decide +kernel
theorem dX12_init_14 : decode cX12_init 14 = .ok (.putfield 13, 3) := by decide +kernel
theorem dX12_init_17 : decode cX12_init 17 = .ok (.aload_n 0, 1) := by decide +kernel
theorem dX12_init_18 : decode cX12_init 18 = .ok (.bipush 8, 2) := by decide +kernel
theorem dX12_init_20 : decode cX12_init 20 = .ok (.newarray .int, 2) := by decide +kernel
theorem dX12_init_22 : decode cX12_init 22 = .ok (.putfield 17, 3) := by decide +kernel
theorem dX12_init_25 : decode cX12_init 25 = .ok (.aload_n 0, 1) := by decide +kernel
theorem dX12_init_26 : decode cX12_init 26 = .ok (.bipush 12, 2) := by decide +kernel
theorem dX12_init_28 : decode cX12_init 28 = .ok (.newarray .int, 2) := by decide +kernel
theorem dX12_init_30 : decode cX12_init 30 = .ok (.putfield 20, 3) := by decide +kernel
theorem dX12_init_33 : decode cX12_init 33 = .ok (.aload_n 0, 1) := by decide +kernel
theorem dX12_init_34 : decode cX12_init 34 = .ok (.bipush 12, 2) := by decide +kernel
theorem dX12_init_36 : decode cX12_init 36 = .ok (.newarray .int, 2) := by decide +kernel
theorem dX12_init_38 : decode cX12_init 38 = .ok (.putfield 23, 3) := by decide +kernel
theorem dX12_init_41 : decode cX12_init 41 = .ok (.aload_n 0, 1) := by decide +kernel
theorem dX12_init_42 : decode cX12_init 42 = .ok (.bipush 12, 2) := by decide +kernel
theorem dX12_init_44 : decode cX12_init 44 = .ok (.newarray .int, 2) := by decide +kernel
theorem dX12_init_46 : decode cX12_init 46 = .ok (.putfield 26, 3) := by decide +kernel
theorem dX12_init_49 : decode cX12_init 49 = .ok (.aload_n 0, 1) := by decide +kernel
theorem dX12_init_50 : decode cX12_init 50 = .ok (.bipush 12, 2) := by decide +kernel
theorem dX12_init_52 : decode cX12_init 52 = .ok (.newarray .int, 2) := by decide +kernel
theorem dX12_init_54 : decode cX12_init 54 = .ok (.putfield 29, 3) := by decide +kernel
theorem dX12_init_57 : decode cX12_init 57 = .ok (.aload_n 0, 1) := by decide +kernel
theorem dX12_init_58 : decode cX12_init 58 = .ok (.sipush 1400, 3) := by decide +kernel
theorem dX12_init_61 : decode cX12_init 61 = .ok (.newarray .int, 2) := by decide +kernel
theorem dX12_init_63 : decode cX12_init 63 = .ok (.putfield 32, 3) := by decide +kernel
theorem dX12_init_66 : decode cX12_init 66 = .ok (.aload_n 0, 1) := by decide +kernel
theorem dX12_init_67 : decode cX12_init 67 = .ok (.sipush 700, 3) := by decide +kernel
theorem dX12_init_70 : decode cX12_init 70 = .ok (.newarray .int, 2) := by decide +kernel
theorem dX12_init_72 : decode cX12_init 72 = .ok (.putfield 35, 3) := by decide +kernel
theorem dX12_init_75 : decode cX12_init 75 = .ok (.aload_n 0, 1) := by decide +kernel
theorem dX12_init_76 : decode cX12_init 76 = .ok (.iconst (-1), 1) := by decide +kernel
theorem dX12_init_77 : decode cX12_init 77 = .ok (.putfield 38, 3) := by decide +kernel
theorem dX12_init_80 : decode cX12_init 80 = .ok (.aload_n 0, 1) := by decide +kernel
theorem dX12_init_81 : decode cX12_init 81 = .ok (.iconst 3, 1) := by decide +kernel
theorem dX12_init_82 : decode cX12_init 82 = .ok (.newarray .int, 2) := by decide +kernel
theorem dX12_init_84 : decode cX12_init 84 = .ok (.putfield 41, 3) := by decide +kernel
theorem dX12_init_87 : decode cX12_init 87 = .ok (.aload_n 0, 1) := by decide +kernel
theorem dX12_init_88 : decode cX12_init 88 = .ok (.bipush 8, 2) := by decide +kernel
theorem dX12_init_90 : decode cX12_init 90 = .ok (.newarray .int, 2) := by decide +kernel
theorem dX12_init_92 : decode cX12_init 92 = .ok (.putfield 44, 3) := by decide +kernel
theorem dX12_init_95 : decode cX12_init 95 = .ok (.aload_n 0, 1) := by decide +kernel
theorem dX12_init_96 : decode cX12_init 96 = .ok (.bipush 8, 2) := by decide +kernel
theorem dX12_init_98 : decode cX12_init 98 = .ok (.newarray .int, 2) := by decide +kernel
theorem dX12_init_100 : decode cX12_init 100 = .ok (.putfield 47, 3) := by decide +kernel
theorem dX12_init_103 : decode cX12_init 103 = .ok (.aload_n 0, 1) := by decide +kernel
theorem dX12_init_104 : decode cX12_init 104 = .ok (.bipush 12, 2) := by decide +kernel
theorem dX12_init_106 : decode cX12_init 106 = .ok (.newarray .int, 2) := by decide +kernel
theorem dX12_init_108 : decode cX12_init 108 = .ok (.putfield 50, 3) := by decide +kernel
theorem dX12_init_111 : decode cX12_init 111 = .ok (.aload_n 0, 1) := by decide +kernel
theorem dX12_init_112 : decode cX12_init 112 = .ok (.bipush 12, 2) := by decide +kernel
theorem dX12_init_114 : decode cX12_init 114 = .ok (.newarray .int, 2) := by decide +kernel
theorem dX12_init_116 : decode cX12_init 116 = .ok (.putfield 53, 3) := by decide +kernel
theorem dX12_init_119 : decode cX12_init 119 = .ok (.aload_n 0, 1) := by decide +kernel
theorem dX12_init_120 : decode cX12_init 120 = .ok (.bipush 12, 2) := by decide +kernel
theorem dX12_init_122 : decode cX12_init 122 = .ok (.newarray .int, 2) := by decide +kernel
theorem dX12_init_124 : decode cX12_init 124 = .ok (.putfield 56, 3) := by decide +kernel
theorem dX12_init_127 : decode cX12_init 127 = .ok (.aload_n 0, 1) := by decide +kernel
theorem dX12_init_128 : decode cX12_init 128 = .ok (.bipush 12, 2) := by decide +kernel
theorem dX12_init_130 : decode cX12_init 130 = .ok (.newarray .int, 2) := by decide +kernel
theorem dX12_init_132 : decode cX12_init 132 = .ok (.putfield 59, 3) := by decide +kernel
theorem dX12_init_135 : decode cX12_init 135 = .ok (.aload_n 0, 1) := by decide +kernel
theorem dX12_init_136 : decode cX12_init 136 = .ok (.bipush 85, 2) := by decide +kernel
theorem dX12_init_138 : decode cX12_init 138 = .ok (.newarray .int, 2) := by decide +kernel
theorem dX12_init_140 : decode cX12_init 140 = .ok (.putfield 62, 3) := by decide +kernel
theorem dX12_init_143 : decode cX12_init 143 = .ok (.aload_n 0, 1) := by decide +kernel
theorem dX12_init_144 : decode cX12_init 144 = .ok (.sipush 1400, 3) := by decide +kernel
theorem dX12_init_147 : decode cX12_init 147 = .ok (.newarray .int, 2) := by decide +kernel
theorem dX12_init_149 : decode cX12_init 149 = .ok (.putfield 65, 3) := by decide +kernel
theorem dX12_init_152 : decode cX12_init 152 = .ok (.aload_n 0, 1) := by decide +kernel
theorem dX12_init_153 : decode cX12_init 153 = .ok (.sipush 950, 3) := by decide +kernel
theorem dX12_init_156 : decode cX12_init 156 = .ok (.newarray .int, 2) := by decide +kernel
theorem dX12_init_158 : decode cX12_init 158 = .ok (.putfield 68, 3) := by decide +kernel
theorem dX12_init_161 : decode cX12_init 161 = .ok (.aload_n 0, 1) := by decide +kernel
theorem dX12_init_162 : decode cX12_init 162 = .ok (.bipush 9, 2) := by decide +kernel
theorem dX12_init_164 : decode cX12_init 164 = .ok (.newarray .boolean, 2) := by decide +kernel
theorem dX12_init_166 : decode cX12_init 166 = .ok (.putfield 71, 3) := by decide +kernel
theorem dX12_init_169 : decode cX12_init 169 = .ok (.aload_n 0, 1) := by decide +kernel
theorem dX12_init_170 : decode cX12_init 170 = .ok (.sipush 170, 3) := by decide +kernel
theorem dX12_init_173 : decode cX12_init 173 = .ok (.newarray .int, 2) := by decide +kernel
theorem dX12_init_175 : decode cX12_init 175 = .ok (.putfield 75, 3) := by decide +kernel
theorem dX12_init_178 : decode cX12_init 178 = .ok (.aload_n 0, 1) := by decide +kernel
theorem dX12_init_179 : decode cX12_init 179 = .ok (.sipush 3400, 3) := by decide +kernel
theorem dX12_init_182 : decode cX12_init 182 = .ok (.newarray .int, 2) := by decide +kernel
theorem dX12_init_184 : decode cX12_init 184 = .ok (.putfield 78, 3) := by decide +kernel
theorem dX12_init_187 : decode cX12_init 187 = .ok (.aload_n 0, 1) := by decide +kernel
theorem dX12_init_188 : decode cX12_init 188 = .ok (.bipush 6, 2) := by decide +kernel
theorem dX12_init_190 : decode cX12_init 190 = .ok (.newarray .int, 2) := by decide +kernel
theorem dX12_init_192 : decode cX12_init 192 = .ok (.putfield 81, 3) := by decide +kernel
theorem dX12_init_195 : decode cX12_init 195 = .ok (.aload_n 0, 1) := by decide +kernel
theorem dX12_init_196 : decode cX12_init 196 = .ok (.sipush 950, 3) := by decide +kernel
theorem dX12_init_199 : decode cX12_init 199 = .ok (.newarray .int, 2) := by decide +kernel
theorem dX12_init_201 : decode cX12_init 201 = .ok (.putfield 84, 3) := by decide +kernel
theorem dX12_init_204 : decode cX12_init 204 = .ok (.aload_n 0, 1) := by decide +kernel
theorem dX12_init_205 : decode cX12_init 205 = .ok (.bipush 64, 2) := by decide +kernel
theorem dX12_init_207 : decode cX12_init 207 = .ok (.newarray .int, 2) := by decide +kernel
theorem dX12_init_209 : decode cX12_init 209 = .ok (.putfield 87, 3) := by decide +kernel
theorem dX12_init_212 : decode cX12_init 212 = .ok (.aload_n 0, 1) := by decide +kernel
theorem dX12_init_213 : decode cX12_init 213 = .ok (.bipush 64, 2) := by decide +kernel
theorem dX12_init_215 : decode cX12_init 215 = .ok (.newarray .int, 2) := by decide +kernel
theorem dX12_init_217 : decode cX12_init 217 = .ok (.putfield 90, 3) := by decide +kernel
theorem dX12_init_220 : decode cX12_init 220 = .ok (.aload_n 0, 1) := by decide +kernel
theorem dX12_init_221 : decode cX12_init 221 = .ok (.sipush 10240, 3) := by decide +kernel
theorem dX12_init_224 : decode cX12_init 224 = .ok (.newarray .int, 2) := by decide +kernel
theorem dX12_init_226 : decode cX12_init 226 = .ok (.putfield 93, 3) := by decide +kernel
theorem dX12_init_229 : decode cX12_init 229 = .ok (.aload_n 0, 1) := by decide +kernel
theorem dX12_init_230 : decode cX12_init 230 = .ok (.sipush 240, 3) := by decide +kernel
theorem dX12_init_233 : decode cX12_init 233 = .ok (.newarray .int, 2) := by decide +kernel
theorem dX12_init_235 : decode cX12_init 235 = .ok (.putfield 96, 3) := by decide +kernel
theorem dX12_init_238 : decode cX12_init 238 = .ok (.aload_n 0, 1) := by decide +kernel
theorem dX12_init_239 : decode cX12_init 239 = .ok (.bipush 24, 2) := by decide +kernel
theorem dX12_init_241 : decode cX12_init 241 = .ok (.newarray .int, 2) := by decide +kernel
theorem dX12_init_243 : decode cX12_init 243 = .ok (.putfield 99, 3) := by decide +kernel
theorem dX12_init_246 : decode cX12_init 246 = .ok (.aload_n 0, 1) := by decide +kernel
theorem dX12_init_247 : decode cX12_init 247 = .ok (.sipush 248, 3) := by decide +kernel
theorem dX12_init_250 : decode cX12_init 250 = .ok (.newarray .int, 2) := by decide +kernel
theorem dX12_init_252 : decode cX12_init 252 = .ok (.putfield 102, 3) := by decide +kernel
theorem dX12_init_255 : decode cX12_init 255 = .ok (.aload_n 0, 1) := by decide +kernel
theorem dX12_init_256 : decode cX12_init 256 = .ok (.sipush 24800, 3) := by decide +kernel
theorem dX12_init_259 : decode cX12_init 259 = .ok (.newarray .int, 2) := by decide +kernel
theorem dX12_init_261 : decode cX12_init 261 = .ok (.putfield 105, 3) := by decide +kernel
theorem dX12_init_264 : decode cX12_init 264 = .ok (.aload_n 0, 1) := by decide +kernel
theorem dX12_init_265 : decode cX12_init 265 = .ok (.bipush 85, 2) := by decide +kernel
theorem dX12_init_267 : decode cX12_init 267 = .ok (.newarray .int, 2) := by decide +kernel
theorem dX12_init_269 : decode cX12_init 269 = .ok (.putfield 108, 3) := by decide +kernel
theorem dX12_init_272 : decode cX12_init 272 = .ok (.aload_n 0, 1) := by decide +kernel
theorem dX12_init_273 : decode cX12_init 273 = .ok (.sipush 3400, 3) := by decide +kernel
theorem dX12_init_276 : decode cX12_init 276 = .ok (.newarray .int, 2) := by decide +kernel
theorem dX12_init_278 : decode cX12_init 278 = .ok (.putfield 111, 3) := by decide +kernel
theorem dX12_init_281 : decode cX12_init 281 = .ok (.aload_n 0, 1) := by decide +kernel
theorem dX12_init_282 : decode cX12_init 282 = .ok (.bipush 24, 2) := by decide +kernel
theorem dX12_init_284 : decode cX12_init 284 = .ok (.newarray .int, 2) := by decide +kernel
theorem dX12_init_286 : decode cX12_init 286 = .ok (.putfield 114, 3) := by decide +kernel
theorem dX12_init_289 : decode cX12_init 289 = .ok (.return_, 1) := by decide +kernel
theorem dX12_thrown_0 : decode cX12_thrown 0 = .ok (.aload_n 0, 1) := by decide +kernel
theorem dX12_thrown_1 : decode cX12_thrown 1 = .ok (.getfield 117, 3) := by decide +kernel
theorem dX12_thrown_4 : decode cX12_thrown 4 = .ok (.ireturn, 1) := by decide +kernel
theorem dX12_right_0 : decode cX12_right 0 = .ok (.aload_n 0, 1) := by decide +kernel
theorem dX12_right_1 : decode cX12_right 1 = .ok (.getfield 117, 3) := by decide +kernel
theorem dX12_right_4 : decode cX12_right 4 = .ok (.ifCond .ne 12, 3) := by decide +kernel
theorem dX12_right_7 : decode cX12_right 7 = .ok (.iload_n 1, 1) := by decide +kernel
theorem dX12_right_8 : decode cX12_right 8 = .ok (.ifCond .ne 8, 3) := by decide +kernel
theorem dX12_right_11 : decode cX12_right 11 = .ok (.aload_n 0, 1) := by decide +kernel
theorem dX12_right_12 : decode cX12_right 12 = .ok (.iload_n 2, 1) := by decide +kernel
theorem dX12_right_13 : decode cX12_right 13 = .ok (.putfield 117, 3) := by decide +kernel
theorem dX12_right_16 : decode cX12_right 16 = .ok (.aload_n 0, 1) := by decide +kernel
theorem dX12_right_17 : decode cX12_right 17 = .ok (.getfield 117, 3) := by decide +kernel
theorem dX12_right_20 : decode cX12_right 20 = .ok (.ifCond .ne 7, 3) := by decide +kernel
theorem dX12_right_23 : decode cX12_right 23 = .ok (.iconst 1, 1) := by decide +kernel
theorem dX12_right_24 : decode cX12_right 24 = .ok (.goto 4, 3) := by decide +kernel
theorem dX12_right_27 : decode cX12_right 27 = .ok (.iconst 0, 1) := by decide +kernel
theorem dX12_right_28 : decode cX12_right 28 = .ok (.ireturn, 1) := by decide +kernel
theorem dX12_within_0 : decode cX12_within 0 = .ok (.iload_n 0, 1) := by decide +kernel
theorem dX12_within_1 : decode cX12_within 1 = .ok (.iload_n 1, 1) := by decide +kernel
theorem dX12_within_2 : decode cX12_within 2 = .ok (.if_icmp .lt 12, 3) := by decide +kernel
theorem dX12_within_5 : decode cX12_within 5 = .ok (.iload_n 0, 1) := by decide +kernel
theorem dX12_within_6 : decode cX12_within 6 = .ok (.iload_n 2, 1) := by decide +kernel
theorem dX12_within_7 : decode cX12_within 7 = .ok (.if_icmp .gt 7, 3) := by decide +kernel
theorem dX12_within_10 : decode cX12_within 10 = .ok (.iconst 1, 1) := by decide +kernel
theorem dX12_within_11 : decode cX12_within 11 = .ok (.goto 4, 3) := by decide +kernel
theorem dX12_within_14 : decode cX12_within 14 = .ok (.iconst 0, 1) := by decide +kernel
theorem dX12_within_15 : decode cX12_within 15 = .ok (.ireturn, 1) := by decide +kernel
theorem dX12_kept_0 : decode cX12_kept 0 = .ok (.iload_n 0, 1) := by decide +kernel
theorem dX12_kept_1 : decode cX12_kept 1 = .ok (.iload_n 1, 1) := by decide +kernel
theorem dX12_kept_2 : decode cX12_kept 2 = .ok (.if_icmp .ge 7, 3) := by decide +kernel
theorem dX12_kept_5 : decode cX12_kept 5 = .ok (.iload_n 1, 1) := by decide +kernel
theorem dX12_kept_6 : decode cX12_kept 6 = .ok (.goto 13, 3) := by decide +kernel
theorem dX12_kept_9 : decode cX12_kept 9 = .ok (.iload_n 0, 1) := by decide +kernel
theorem dX12_kept_10 : decode cX12_kept 10 = .ok (.iload_n 2, 1) := by decide +kernel
theorem dX12_kept_11 : decode cX12_kept 11 = .ok (.if_icmp .le 7, 3) := by decide +kernel
theorem dX12_kept_14 : decode cX12_kept 14 = .ok (.iload_n 2, 1) := by decide +kernel
theorem dX12_kept_15 : decode cX12_kept 15 = .ok (.goto 4, 3) := by decide +kernel
theorem dX12_kept_18 : decode cX12_kept 18 = .ok (.iload_n 0, 1) := by decide +kernel
theorem dX12_kept_19 : decode cX12_kept 19 = .ok (.ireturn, 1) := by decide +kernel
theorem dX12_lesser_0 : decode cX12_lesser 0 = .ok (.iload_n 0, 1) := by decide +kernel
theorem dX12_lesser_1 : decode cX12_lesser 1 = .ok (.iload_n 1, 1) := by decide +kernel
theorem dX12_lesser_2 : decode cX12_lesser 2 = .ok (.if_icmp .ge 7, 3) := by decide +kernel
theorem dX12_lesser_5 : decode cX12_lesser 5 = .ok (.iload_n 0, 1) := by decide +kernel
theorem dX12_lesser_6 : decode cX12_lesser 6 = .ok (.goto 4, 3) := by decide +kernel
theorem dX12_lesser_9 : decode cX12_lesser 9 = .ok (.iload_n 1, 1) := by decide +kernel
theorem dX12_lesser_10 : decode cX12_lesser 10 = .ok (.ireturn, 1) := by decide +kernel
theorem dX12_copies_0 : decode cX12_copies 0 = .ok (.iconst 0, 1) := by decide +kernel
theorem dX12_copies_1 : decode cX12_copies 1 = .ok (.istore_n 3, 1) := by decide +kernel
theorem dX12_copies_2 : decode cX12_copies 2 = .ok (.iload_n 3, 1) := by decide +kernel
theorem dX12_copies_3 : decode cX12_copies 3 = .ok (.aload_n 1, 1) := by decide +kernel
theorem dX12_copies_4 : decode cX12_copies 4 = .ok (.arraylength, 1) := by decide +kernel
theorem dX12_copies_5 : decode cX12_copies 5 = .ok (.if_icmp .ge 15, 3) := by decide +kernel
theorem dX12_copies_8 : decode cX12_copies 8 = .ok (.aload_n 2, 1) := by decide +kernel
theorem dX12_copies_9 : decode cX12_copies 9 = .ok (.iload_n 3, 1) := by decide +kernel
theorem dX12_copies_10 : decode cX12_copies 10 = .ok (.aload_n 1, 1) := by decide +kernel
theorem dX12_copies_11 : decode cX12_copies 11 = .ok (.iload_n 3, 1) := by decide +kernel
theorem dX12_copies_12 : decode cX12_copies 12 = .ok (.iaload, 1) := by decide +kernel
theorem dX12_copies_13 : decode cX12_copies 13 = .ok (.iastore, 1) := by decide +kernel
theorem dX12_copies_14 : decode cX12_copies 14 = .ok (.iinc 3 1, 3) := by decide +kernel
theorem dX12_copies_17 : decode cX12_copies 17 = .ok (.goto (-15), 3) := by decide +kernel
theorem dX12_copies_20 : decode cX12_copies 20 = .ok (.return_, 1) := by decide +kernel
theorem dX12_bits_0 : decode cX12_bits 0 = .ok (.iconst 0, 1) := by decide +kernel
theorem dX12_bits_1 : decode cX12_bits 1 = .ok (.istore_n 1, 1) := by decide +kernel
theorem dX12_bits_2 : decode cX12_bits 2 = .ok (.iconst 0, 1) := by decide +kernel
theorem dX12_bits_3 : decode cX12_bits 3 = .ok (.istore_n 2, 1) := by decide +kernel
theorem dX12_bits_4 : decode cX12_bits 4 = .ok (.iload_n 2, 1) := by decide +kernel
theorem dX12_bits_5 : decode cX12_bits 5 = .ok (.bipush 10, 2) := by decide +kernel
theorem dX12_bits_7 : decode cX12_bits 7 = .ok (.if_icmp .ge 17, 3) := by decide +kernel
theorem dX12_bits_10 : decode cX12_bits 10 = .ok (.iload_n 1, 1) := by decide +kernel
theorem dX12_bits_11 : decode cX12_bits 11 = .ok (.iload_n 0, 1) := by decide +kernel
theorem dX12_bits_12 : decode cX12_bits 12 = .ok (.iload_n 2, 1) := by decide +kernel
theorem dX12_bits_13 : decode cX12_bits 13 = .ok (.ishr, 1) := by decide +kernel
theorem dX12_bits_14 : decode cX12_bits 14 = .ok (.iconst 1, 1) := by decide +kernel
theorem dX12_bits_15 : decode cX12_bits 15 = .ok (.iand, 1) := by decide +kernel
theorem dX12_bits_16 : decode cX12_bits 16 = .ok (.iadd, 1) := by decide +kernel
theorem dX12_bits_17 : decode cX12_bits 17 = .ok (.istore_n 1, 1) := by decide +kernel
theorem dX12_bits_18 : decode cX12_bits 18 = .ok (.iinc 2 1, 3) := by decide +kernel
theorem dX12_bits_21 : decode cX12_bits 21 = .ok (.goto (-17), 3) := by decide +kernel
theorem dX12_bits_24 : decode cX12_bits 24 = .ok (.iload_n 1, 1) := by decide +kernel
theorem dX12_bits_25 : decode cX12_bits 25 = .ok (.ireturn, 1) := by decide +kernel
theorem dX12_feed_0 : decode cX12_feed 0 = .ok (.aload_n 0, 1) := by decide +kernel
theorem dX12_feed_1 : decode cX12_feed 1 = .ok (.iconst 0, 1) := by decide +kernel
theorem dX12_feed_2 : decode cX12_feed 2 = .ok (.putfield 117, 3) := by decide +kernel
theorem dX12_feed_5 : decode cX12_feed 5 = .ok (.aload_n 0, 1) := by decide +kernel
theorem dX12_feed_6 : decode cX12_feed 6 = .ok (.getfield 120, 3) := by decide +kernel
theorem dX12_feed_9 : decode cX12_feed 9 = .ok (.bipush 20, 2) := by decide +kernel
theorem dX12_feed_11 : decode cX12_feed 11 = .ok (.iadd, 1) := by decide +kernel
theorem dX12_feed_12 : decode cX12_feed 12 = .ok (.sipush 700, 3) := by decide +kernel
theorem dX12_feed_15 : decode cX12_feed 15 = .ok (.if_icmp .le 5, 3) := by decide +kernel
theorem dX12_feed_18 : decode cX12_feed 18 = .ok (.iconst (-1), 1) := by decide +kernel
theorem dX12_feed_19 : decode cX12_feed 19 = .ok (.ireturn, 1) := by decide +kernel
theorem dX12_feed_20 : decode cX12_feed 20 = .ok (.aload_n 0, 1) := by decide +kernel
theorem dX12_feed_21 : decode cX12_feed 21 = .ok (.iload_n 1, 1) := by decide +kernel
theorem dX12_feed_22 : decode cX12_feed 22 = .ok (.invokevirtual 123, 3) := by decide +kernel
theorem dX12_feed_25 : decode cX12_feed 25 = .ok (.aload_n 0, 1) := by decide +kernel
theorem dX12_feed_26 : decode cX12_feed 26 = .ok (.iload_n 2, 1) := by decide +kernel
theorem dX12_feed_27 : decode cX12_feed 27 = .ok (.invokevirtual 123, 3) := by decide +kernel
theorem dX12_feed_30 : decode cX12_feed 30 = .ok (.aload_n 0, 1) := by decide +kernel
theorem dX12_feed_31 : decode cX12_feed 31 = .ok (.iload_n 3, 1) := by decide +kernel
theorem dX12_feed_32 : decode cX12_feed 32 = .ok (.invokevirtual 123, 3) := by decide +kernel
theorem dX12_feed_35 : decode cX12_feed 35 = .ok (.aload_n 0, 1) := by decide +kernel
theorem dX12_feed_36 : decode cX12_feed 36 = .ok (.iload 4, 2) := by decide +kernel
theorem dX12_feed_38 : decode cX12_feed 38 = .ok (.invokevirtual 123, 3) := by decide +kernel
theorem dX12_feed_41 : decode cX12_feed 41 = .ok (.aload_n 0, 1) := by decide +kernel
theorem dX12_feed_42 : decode cX12_feed 42 = .ok (.iload 5, 2) := by decide +kernel
theorem dX12_feed_44 : decode cX12_feed 44 = .ok (.invokevirtual 123, 3) := by decide +kernel
theorem dX12_feed_47 : decode cX12_feed 47 = .ok (.aload_n 0, 1) := by decide +kernel
theorem dX12_feed_48 : decode cX12_feed 48 = .ok (.getfield 120, 3) := by decide +kernel
theorem dX12_feed_51 : decode cX12_feed 51 = .ok (.ireturn, 1) := by decide +kernel
theorem dX12_lays_0 : decode cX12_lays 0 = .ok (.bipush 24, 2) := by decide +kernel
theorem dX12_lays_2 : decode cX12_lays 2 = .ok (.istore_n 2, 1) := by decide +kernel
theorem dX12_lays_3 : decode cX12_lays 3 = .ok (.iload_n 2, 1) := by decide +kernel
theorem dX12_lays_4 : decode cX12_lays 4 = .ok (.ifCond .lt 35, 3) := by decide +kernel
theorem dX12_lays_7 : decode cX12_lays 7 = .ok (.aload_n 0, 1) := by decide +kernel
theorem dX12_lays_8 : decode cX12_lays 8 = .ok (.getfield 35, 3) := by decide +kernel
theorem dX12_lays_11 : decode cX12_lays 11 = .ok (.aload_n 0, 1) := by decide +kernel
theorem dX12_lays_12 : decode cX12_lays 12 = .ok (.getfield 120, 3) := by decide +kernel
theorem dX12_lays_15 : decode cX12_lays 15 = .ok (.iload_n 1, 1) := by decide +kernel
theorem dX12_lays_16 : decode cX12_lays 16 = .ok (.iload_n 2, 1) := by decide +kernel
theorem dX12_lays_17 : decode cX12_lays 17 = .ok (.ishr, 1) := by decide +kernel
theorem dX12_lays_18 : decode cX12_lays 18 = .ok (.sipush 255, 3) := by decide +kernel
theorem dX12_lays_21 : decode cX12_lays 21 = .ok (.iand, 1) := by decide +kernel
theorem dX12_lays_22 : decode cX12_lays 22 = .ok (.iastore, 1) := by decide +kernel
theorem dX12_lays_23 : decode cX12_lays 23 = .ok (.aload_n 0, 1) := by decide +kernel
theorem dX12_lays_24 : decode cX12_lays 24 = .ok (.dup, 1) := by decide +kernel
theorem dX12_lays_25 : decode cX12_lays 25 = .ok (.getfield 120, 3) := by decide +kernel
theorem dX12_lays_28 : decode cX12_lays 28 = .ok (.iconst 1, 1) := by decide +kernel
theorem dX12_lays_29 : decode cX12_lays 29 = .ok (.iadd, 1) := by decide +kernel
theorem dX12_lays_30 : decode cX12_lays 30 = .ok (.putfield 120, 3) := by decide +kernel
theorem dX12_lays_33 : decode cX12_lays 33 = .ok (.iinc 2 (-8), 3) := by decide +kernel
theorem dX12_lays_36 : decode cX12_lays 36 = .ok (.goto (-33), 3) := by decide +kernel
theorem dX12_lays_39 : decode cX12_lays 39 = .ok (.return_, 1) := by decide +kernel
theorem dX12_byteAt_0 : decode cX12_byteAt 0 = .ok (.iload_n 1, 1) := by decide +kernel
theorem dX12_byteAt_1 : decode cX12_byteAt 1 = .ok (.aload_n 0, 1) := by decide +kernel
theorem dX12_byteAt_2 : decode cX12_byteAt 2 = .ok (.getfield 127, 3) := by decide +kernel
theorem dX12_byteAt_5 : decode cX12_byteAt 5 = .ok (.if_icmp .ge 12, 3) := by decide +kernel
theorem dX12_byteAt_8 : decode cX12_byteAt 8 = .ok (.aload_n 0, 1) := by decide +kernel
theorem dX12_byteAt_9 : decode cX12_byteAt 9 = .ok (.getfield 35, 3) := by decide +kernel
theorem dX12_byteAt_12 : decode cX12_byteAt 12 = .ok (.iload_n 1, 1) := by decide +kernel
theorem dX12_byteAt_13 : decode cX12_byteAt 13 = .ok (.iaload, 1) := by decide +kernel
theorem dX12_byteAt_14 : decode cX12_byteAt 14 = .ok (.goto 4, 3) := by decide +kernel
theorem dX12_byteAt_17 : decode cX12_byteAt 17 = .ok (.iconst 0, 1) := by decide +kernel
theorem dX12_byteAt_18 : decode cX12_byteAt 18 = .ok (.ireturn, 1) := by decide +kernel
theorem dX12_isLetter_0 : decode cX12_isLetter 0 = .ok (.iload_n 0, 1) := by decide +kernel
theorem dX12_isLetter_1 : decode cX12_isLetter 1 = .ok (.bipush 97, 2) := by decide +kernel
theorem dX12_isLetter_3 : decode cX12_isLetter 3 = .ok (.if_icmp .lt 13, 3) := by decide +kernel
theorem dX12_isLetter_6 : decode cX12_isLetter 6 = .ok (.iload_n 0, 1) := by decide +kernel
theorem dX12_isLetter_7 : decode cX12_isLetter 7 = .ok (.bipush 122, 2) := by decide +kernel
theorem dX12_isLetter_9 : decode cX12_isLetter 9 = .ok (.if_icmp .gt 7, 3) := by decide +kernel
theorem dX12_isLetter_12 : decode cX12_isLetter 12 = .ok (.iconst 1, 1) := by decide +kernel
theorem dX12_isLetter_13 : decode cX12_isLetter 13 = .ok (.goto 4, 3) := by decide +kernel
theorem dX12_isLetter_16 : decode cX12_isLetter 16 = .ok (.iconst 0, 1) := by decide +kernel
theorem dX12_isLetter_17 : decode cX12_isLetter 17 = .ok (.ireturn, 1) := by decide +kernel
theorem dX12_isDigit_0 : decode cX12_isDigit 0 = .ok (.iload_n 0, 1) := by decide +kernel
theorem dX12_isDigit_1 : decode cX12_isDigit 1 = .ok (.bipush 48, 2) := by decide +kernel
theorem dX12_isDigit_3 : decode cX12_isDigit 3 = .ok (.if_icmp .lt 13, 3) := by decide +kernel
theorem dX12_isDigit_6 : decode cX12_isDigit 6 = .ok (.iload_n 0, 1) := by decide +kernel
theorem dX12_isDigit_7 : decode cX12_isDigit 7 = .ok (.bipush 57, 2) := by decide +kernel
theorem dX12_isDigit_9 : decode cX12_isDigit 9 = .ok (.if_icmp .gt 7, 3) := by decide +kernel
theorem dX12_isDigit_12 : decode cX12_isDigit 12 = .ok (.iconst 1, 1) := by decide +kernel
theorem dX12_isDigit_13 : decode cX12_isDigit 13 = .ok (.goto 4, 3) := by decide +kernel
theorem dX12_isDigit_16 : decode cX12_isDigit 16 = .ok (.iconst 0, 1) := by decide +kernel
theorem dX12_isDigit_17 : decode cX12_isDigit 17 = .ok (.ireturn, 1) := by decide +kernel
theorem dX12_goes_0 : decode cX12_goes 0 = .ok (.aload_n 0, 1) := by decide +kernel
theorem dX12_goes_1 : decode cX12_goes 1 = .ok (.getfield 130, 3) := by decide +kernel
theorem dX12_goes_4 : decode cX12_goes 4 = .ok (.aload_n 0, 1) := by decide +kernel
theorem dX12_goes_5 : decode cX12_goes 5 = .ok (.getfield 127, 3) := by decide +kernel
theorem dX12_goes_8 : decode cX12_goes 8 = .ok (.if_icmp .ge 42, 3) := by decide +kernel
theorem dX12_goes_11 : decode cX12_goes 11 = .ok (.aload_n 0, 1) := by decide +kernel
theorem dX12_goes_12 : decode cX12_goes 12 = .ok (.aload_n 0, 1) := by decide +kernel
theorem dX12_goes_13 : decode cX12_goes 13 = .ok (.getfield 130, 3) := by decide +kernel
theorem dX12_goes_16 : decode cX12_goes 16 = .ok (.invokevirtual 133, 3) := by decide +kernel
theorem dX12_goes_19 : decode cX12_goes 19 = .ok (.bipush 32, 2) := by decide +kernel
theorem dX12_goes_21 : decode cX12_goes 21 = .ok (.if_icmp .eq 16, 3) := by decide +kernel
theorem dX12_goes_24 : decode cX12_goes 24 = .ok (.aload_n 0, 1) := by decide +kernel
theorem dX12_goes_25 : decode cX12_goes 25 = .ok (.aload_n 0, 1) := by decide +kernel
theorem dX12_goes_26 : decode cX12_goes 26 = .ok (.getfield 130, 3) := by decide +kernel
theorem dX12_goes_29 : decode cX12_goes 29 = .ok (.invokevirtual 133, 3) := by decide +kernel
theorem dX12_goes_32 : decode cX12_goes 32 = .ok (.bipush 10, 2) := by decide +kernel
theorem dX12_goes_34 : decode cX12_goes 34 = .ok (.if_icmp .ne 16, 3) := by decide +kernel
theorem dX12_goes_37 : decode cX12_goes 37 = .ok (.aload_n 0, 1) := by decide +kernel
theorem dX12_goes_38 : decode cX12_goes 38 = .ok (.dup, 1) := by decide +kernel
theorem dX12_goes_39 : decode cX12_goes 39 = .ok (.getfield 130, 3) := by decide +kernel
theorem dX12_goes_42 : decode cX12_goes 42 = .ok (.iconst 1, 1) := by decide +kernel
theorem dX12_goes_43 : decode cX12_goes 43 = .ok (.iadd, 1) := by decide +kernel
theorem dX12_goes_44 : decode cX12_goes 44 = .ok (.putfield 130, 3) := by decide +kernel
theorem dX12_goes_47 : decode cX12_goes 47 = .ok (.goto (-47), 3) := by decide +kernel
theorem dX12_goes_50 : decode cX12_goes 50 = .ok (.aload_n 0, 1) := by decide +kernel
theorem dX12_goes_51 : decode cX12_goes 51 = .ok (.aload_n 0, 1) := by decide +kernel
theorem dX12_goes_52 : decode cX12_goes 52 = .ok (.getfield 130, 3) := by decide +kernel
theorem dX12_goes_55 : decode cX12_goes 55 = .ok (.putfield 137, 3) := by decide +kernel
theorem dX12_goes_58 : decode cX12_goes 58 = .ok (.aload_n 0, 1) := by decide +kernel
theorem dX12_goes_59 : decode cX12_goes 59 = .ok (.lconst 0, 1) := by decide +kernel
theorem dX12_goes_60 : decode cX12_goes 60 = .ok (.putfield 140, 3) := by decide +kernel
theorem dX12_goes_63 : decode cX12_goes 63 = .ok (.aload_n 0, 1) := by decide +kernel
theorem dX12_goes_64 : decode cX12_goes 64 = .ok (.iconst 0, 1) := by decide +kernel
theorem dX12_goes_65 : decode cX12_goes 65 = .ok (.putfield 144, 3) := by decide +kernel
theorem dX12_goes_68 : decode cX12_goes 68 = .ok (.aload_n 0, 1) := by decide +kernel
theorem dX12_goes_69 : decode cX12_goes 69 = .ok (.aload_n 0, 1) := by decide +kernel
theorem dX12_goes_70 : decode cX12_goes 70 = .ok (.getfield 130, 3) := by decide +kernel
theorem dX12_goes_73 : decode cX12_goes 73 = .ok (.invokevirtual 133, 3) := by decide +kernel
theorem dX12_goes_76 : decode cX12_goes 76 = .ok (.istore_n 1, 1) := by decide +kernel
theorem dX12_goes_77 : decode cX12_goes 77 = .ok (.aload_n 0, 1) := by decide +kernel
theorem dX12_goes_78 : decode cX12_goes 78 = .ok (.iload_n 1, 1) := by decide +kernel
theorem dX12_goes_79 : decode cX12_goes 79 = .ok (.putfield 147, 3) := by decide +kernel
theorem dX12_goes_82 : decode cX12_goes 82 = .ok (.aload_n 0, 1) := by decide +kernel
theorem dX12_goes_83 : decode cX12_goes 83 = .ok (.getfield 130, 3) := by decide +kernel
theorem dX12_goes_86 : decode cX12_goes 86 = .ok (.aload_n 0, 1) := by decide +kernel
theorem dX12_goes_87 : decode cX12_goes 87 = .ok (.getfield 127, 3) := by decide +kernel
theorem dX12_goes_90 : decode cX12_goes 90 = .ok (.if_icmp .lt 11, 3) := by decide +kernel
theorem dX12_goes_93 : decode cX12_goes 93 = .ok (.aload_n 0, 1) := by decide +kernel
theorem dX12_goes_94 : decode cX12_goes 94 = .ok (.iconst 0, 1) := by decide +kernel
theorem dX12_goes_95 : decode cX12_goes 95 = .ok (.putfield 150, 3) := by decide +kernel
theorem dX12_goes_98 : decode cX12_goes 98 = .ok (.goto 233, 3) := by decide +kernel
theorem dX12_goes_101 : decode cX12_goes 101 = .ok (.iload_n 1, 1) := by decide +kernel
theorem dX12_goes_102 : decode cX12_goes 102 = .ok (.invokestatic 153, 3) := by decide +kernel
theorem dX12_goes_105 : decode cX12_goes 105 = .ok (.ifCond .eq 75, 3) := by decide +kernel
theorem dX12_goes_108 : decode cX12_goes 108 = .ok (.aload_n 0, 1) := by decide +kernel
theorem dX12_goes_109 : decode cX12_goes 109 = .ok (.aload_n 0, 1) := by decide +kernel
theorem dX12_goes_110 : decode cX12_goes 110 = .ok (.getfield 130, 3) := by decide +kernel
theorem dX12_goes_113 : decode cX12_goes 113 = .ok (.invokevirtual 133, 3) := by decide +kernel
theorem dX12_goes_116 : decode cX12_goes 116 = .ok (.invokestatic 153, 3) := by decide +kernel
theorem dX12_goes_119 : decode cX12_goes 119 = .ok (.ifCond .eq 53, 3) := by decide +kernel
theorem dX12_goes_122 : decode cX12_goes 122 = .ok (.aload_n 0, 1) := by decide +kernel
theorem dX12_goes_123 : decode cX12_goes 123 = .ok (.getfield 130, 3) := by decide +kernel
theorem dX12_goes_126 : decode cX12_goes 126 = .ok (.aload_n 0, 1) := by decide +kernel
theorem dX12_goes_127 : decode cX12_goes 127 = .ok (.getfield 137, 3) := by decide +kernel
theorem dX12_goes_130 : decode cX12_goes 130 = .ok (.isub, 1) := by decide +kernel
theorem dX12_goes_131 : decode cX12_goes 131 = .ok (.bipush 7, 2) := by decide +kernel
theorem dX12_goes_133 : decode cX12_goes 133 = .ok (.if_icmp .ge 26, 3) := by decide +kernel
theorem dX12_goes_136 : decode cX12_goes 136 = .ok (.aload_n 0, 1) := by decide +kernel
theorem dX12_goes_137 : decode cX12_goes 137 = .ok (.aload_n 0, 1) := by decide +kernel
theorem dX12_goes_138 : decode cX12_goes 138 = .ok (.getfield 140, 3) := by decide +kernel
theorem dX12_goes_141 : decode cX12_goes 141 = .ok (.iconst 5, 1) := by decide +kernel
theorem dX12_goes_142 : decode cX12_goes 142 = .ok (.lshl, 1) := by decide +kernel
theorem dX12_goes_143 : decode cX12_goes 143 = .ok (.aload_n 0, 1) := by decide +kernel
theorem dX12_goes_144 : decode cX12_goes 144 = .ok (.aload_n 0, 1) := by decide +kernel
theorem dX12_goes_145 : decode cX12_goes 145 = .ok (.getfield 130, 3) := by decide +kernel
theorem dX12_goes_148 : decode cX12_goes 148 = .ok (.invokevirtual 133, 3) := by decide +kernel
theorem dX12_goes_151 : decode cX12_goes 151 = .ok (.bipush 96, 2) := by decide +kernel
theorem dX12_goes_153 : decode cX12_goes 153 = .ok (.isub, 1) := by decide +kernel
theorem dX12_goes_154 : decode cX12_goes 154 = .ok (.i2l, 1) := by decide +kernel
theorem dX12_goes_155 : decode cX12_goes 155 = .ok (.lor, 1) := by decide +kernel
theorem dX12_goes_156 : decode cX12_goes 156 = .ok (.putfield 140, 3) := by decide +kernel
theorem dX12_goes_159 : decode cX12_goes 159 = .ok (.aload_n 0, 1) := by decide +kernel
theorem dX12_goes_160 : decode cX12_goes 160 = .ok (.dup, 1) := by decide +kernel
theorem dX12_goes_161 : decode cX12_goes 161 = .ok (.getfield 130, 3) := by decide +kernel
theorem dX12_goes_164 : decode cX12_goes 164 = .ok (.iconst 1, 1) := by decide +kernel
theorem dX12_goes_165 : decode cX12_goes 165 = .ok (.iadd, 1) := by decide +kernel
theorem dX12_goes_166 : decode cX12_goes 166 = .ok (.putfield 130, 3) := by decide +kernel
theorem dX12_goes_169 : decode cX12_goes 169 = .ok (.goto (-61), 3) := by decide +kernel
theorem dX12_goes_172 : decode cX12_goes 172 = .ok (.aload_n 0, 1) := by decide +kernel
theorem dX12_goes_173 : decode cX12_goes 173 = .ok (.iconst 1, 1) := by decide +kernel
theorem dX12_goes_174 : decode cX12_goes 174 = .ok (.putfield 150, 3) := by decide +kernel
theorem dX12_goes_177 : decode cX12_goes 177 = .ok (.goto 154, 3) := by decide +kernel
theorem dX12_goes_180 : decode cX12_goes 180 = .ok (.iload_n 1, 1) := by decide +kernel
theorem dX12_goes_181 : decode cX12_goes 181 = .ok (.invokestatic 157, 3) := by decide +kernel
theorem dX12_goes_184 : decode cX12_goes 184 = .ok (.ifCond .eq 74, 3) := by decide +kernel
theorem dX12_goes_187 : decode cX12_goes 187 = .ok (.aload_n 0, 1) := by decide +kernel
theorem dX12_goes_188 : decode cX12_goes 188 = .ok (.aload_n 0, 1) := by decide +kernel
theorem dX12_goes_189 : decode cX12_goes 189 = .ok (.getfield 130, 3) := by decide +kernel
theorem dX12_goes_192 : decode cX12_goes 192 = .ok (.invokevirtual 133, 3) := by decide +kernel
theorem dX12_goes_195 : decode cX12_goes 195 = .ok (.invokestatic 157, 3) := by decide +kernel
theorem dX12_goes_198 : decode cX12_goes 198 = .ok (.ifCond .eq 52, 3) := by decide +kernel
theorem dX12_goes_201 : decode cX12_goes 201 = .ok (.aload_n 0, 1) := by decide +kernel
theorem dX12_goes_202 : decode cX12_goes 202 = .ok (.getfield 130, 3) := by decide +kernel
theorem dX12_goes_205 : decode cX12_goes 205 = .ok (.aload_n 0, 1) := by decide +kernel
theorem dX12_goes_206 : decode cX12_goes 206 = .ok (.getfield 137, 3) := by decide +kernel
theorem dX12_goes_209 : decode cX12_goes 209 = .ok (.isub, 1) := by decide +kernel
theorem dX12_goes_210 : decode cX12_goes 210 = .ok (.iconst 4, 1) := by decide +kernel
theorem dX12_goes_211 : decode cX12_goes 211 = .ok (.if_icmp .ge 26, 3) := by decide +kernel
theorem dX12_goes_214 : decode cX12_goes 214 = .ok (.aload_n 0, 1) := by decide +kernel
theorem dX12_goes_215 : decode cX12_goes 215 = .ok (.bipush 10, 2) := by decide +kernel
theorem dX12_goes_217 : decode cX12_goes 217 = .ok (.aload_n 0, 1) := by decide +kernel
theorem dX12_goes_218 : decode cX12_goes 218 = .ok (.getfield 144, 3) := by decide +kernel
theorem dX12_goes_221 : decode cX12_goes 221 = .ok (.imul, 1) := by decide +kernel
theorem dX12_goes_222 : decode cX12_goes 222 = .ok (.aload_n 0, 1) := by decide +kernel
theorem dX12_goes_223 : decode cX12_goes 223 = .ok (.aload_n 0, 1) := by decide +kernel
theorem dX12_goes_224 : decode cX12_goes 224 = .ok (.getfield 130, 3) := by decide +kernel
theorem dX12_goes_227 : decode cX12_goes 227 = .ok (.invokevirtual 133, 3) := by decide +kernel
theorem dX12_goes_230 : decode cX12_goes 230 = .ok (.iadd, 1) := by decide +kernel
theorem dX12_goes_231 : decode cX12_goes 231 = .ok (.bipush 48, 2) := by decide +kernel
theorem dX12_goes_233 : decode cX12_goes 233 = .ok (.isub, 1) := by decide +kernel
theorem dX12_goes_234 : decode cX12_goes 234 = .ok (.putfield 144, 3) := by decide +kernel
theorem dX12_goes_237 : decode cX12_goes 237 = .ok (.aload_n 0, 1) := by decide +kernel
theorem dX12_goes_238 : decode cX12_goes 238 = .ok (.dup, 1) := by decide +kernel
theorem dX12_goes_239 : decode cX12_goes 239 = .ok (.getfield 130, 3) := by decide +kernel
theorem dX12_goes_242 : decode cX12_goes 242 = .ok (.iconst 1, 1) := by decide +kernel
theorem dX12_goes_243 : decode cX12_goes 243 = .ok (.iadd, 1) := by decide +kernel
theorem dX12_goes_244 : decode cX12_goes 244 = .ok (.putfield 130, 3) := by decide +kernel
theorem dX12_goes_247 : decode cX12_goes 247 = .ok (.goto (-60), 3) := by decide +kernel
theorem dX12_goes_250 : decode cX12_goes 250 = .ok (.aload_n 0, 1) := by decide +kernel
theorem dX12_goes_251 : decode cX12_goes 251 = .ok (.iconst 2, 1) := by decide +kernel
theorem dX12_goes_252 : decode cX12_goes 252 = .ok (.putfield 150, 3) := by decide +kernel
theorem dX12_goes_255 : decode cX12_goes 255 = .ok (.goto 76, 3) := by decide +kernel
theorem dX12_goes_258 : decode cX12_goes 258 = .ok (.aload_n 0, 1) := by decide +kernel
theorem dX12_goes_259 : decode cX12_goes 259 = .ok (.dup, 1) := by decide +kernel
theorem dX12_goes_260 : decode cX12_goes 260 = .ok (.getfield 130, 3) := by decide +kernel
theorem dX12_goes_263 : decode cX12_goes 263 = .ok (.iconst 1, 1) := by decide +kernel
theorem dX12_goes_264 : decode cX12_goes 264 = .ok (.iadd, 1) := by decide +kernel
theorem dX12_goes_265 : decode cX12_goes 265 = .ok (.putfield 130, 3) := by decide +kernel
theorem dX12_goes_268 : decode cX12_goes 268 = .ok (.aload_n 0, 1) := by decide +kernel
theorem dX12_goes_269 : decode cX12_goes 269 = .ok (.iload_n 1, 1) := by decide +kernel
theorem dX12_goes_270 : decode cX12_goes 270 = .ok (.bipush 59, 2) := by decide +kernel
theorem dX12_goes_272 : decode cX12_goes 272 = .ok (.if_icmp .eq 51, 3) := by decide +kernel
theorem dX12_goes_275 : decode cX12_goes 275 = .ok (.iload_n 1, 1) := by decide +kernel
theorem dX12_goes_276 : decode cX12_goes 276 = .ok (.bipush 40, 2) := by decide +kernel
theorem dX12_goes_278 : decode cX12_goes 278 = .ok (.if_icmp .eq 45, 3) := by decide +kernel
theorem dX12_goes_281 : decode cX12_goes 281 = .ok (.iload_n 1, 1) := by decide +kernel
theorem dX12_goes_282 : decode cX12_goes 282 = .ok (.bipush 41, 2) := by decide +kernel
theorem dX12_goes_284 : decode cX12_goes 284 = .ok (.if_icmp .eq 39, 3) := by decide +kernel
theorem dX12_goes_287 : decode cX12_goes 287 = .ok (.iload_n 1, 1) := by decide +kernel
theorem dX12_goes_288 : decode cX12_goes 288 = .ok (.bipush 43, 2) := by decide +kernel
theorem dX12_goes_290 : decode cX12_goes 290 = .ok (.if_icmp .eq 33, 3) := by decide +kernel
theorem dX12_goes_293 : decode cX12_goes 293 = .ok (.iload_n 1, 1) := by decide +kernel
theorem dX12_goes_294 : decode cX12_goes 294 = .ok (.bipush 45, 2) := by decide +kernel
theorem dX12_goes_296 : decode cX12_goes 296 = .ok (.if_icmp .eq 27, 3) := by decide +kernel
theorem dX12_goes_299 : decode cX12_goes 299 = .ok (.iload_n 1, 1) := by decide +kernel
theorem dX12_goes_300 : decode cX12_goes 300 = .ok (.bipush 42, 2) := by decide +kernel
theorem dX12_goes_302 : decode cX12_goes 302 = .ok (.if_icmp .eq 21, 3) := by decide +kernel
theorem dX12_goes_305 : decode cX12_goes 305 = .ok (.iload_n 1, 1) := by decide +kernel
theorem dX12_goes_306 : decode cX12_goes 306 = .ok (.bipush 47, 2) := by decide +kernel
theorem dX12_goes_308 : decode cX12_goes 308 = .ok (.if_icmp .eq 15, 3) := by decide +kernel
theorem dX12_goes_311 : decode cX12_goes 311 = .ok (.iload_n 1, 1) := by decide +kernel
theorem dX12_goes_312 : decode cX12_goes 312 = .ok (.bipush 60, 2) := by decide +kernel
theorem dX12_goes_314 : decode cX12_goes 314 = .ok (.if_icmp .eq 9, 3) := by decide +kernel
theorem dX12_goes_317 : decode cX12_goes 317 = .ok (.iload_n 1, 1) := by decide +kernel
theorem dX12_goes_318 : decode cX12_goes 318 = .ok (.bipush 61, 2) := by decide +kernel
theorem dX12_goes_320 : decode cX12_goes 320 = .ok (.if_icmp .ne 7, 3) := by decide +kernel
theorem dX12_goes_323 : decode cX12_goes 323 = .ok (.iconst 3, 1) := by decide +kernel
theorem dX12_goes_324 : decode cX12_goes 324 = .ok (.goto 4, 3) := by decide +kernel
theorem dX12_goes_327 : decode cX12_goes 327 = .ok (.iconst 4, 1) := by decide +kernel
theorem dX12_goes_328 : decode cX12_goes 328 = .ok (.putfield 150, 3) := by decide +kernel
theorem dX12_goes_331 : decode cX12_goes 331 = .ok (.aload_n 0, 1) := by decide +kernel
theorem dX12_goes_332 : decode cX12_goes 332 = .ok (.aload_n 0, 1) := by decide +kernel
theorem dX12_goes_333 : decode cX12_goes 333 = .ok (.getfield 130, 3) := by decide +kernel
theorem dX12_goes_336 : decode cX12_goes 336 = .ok (.aload_n 0, 1) := by decide +kernel
theorem dX12_goes_337 : decode cX12_goes 337 = .ok (.getfield 137, 3) := by decide +kernel
theorem dX12_goes_340 : decode cX12_goes 340 = .ok (.isub, 1) := by decide +kernel
theorem dX12_goes_341 : decode cX12_goes 341 = .ok (.putfield 160, 3) := by decide +kernel
theorem dX12_goes_344 : decode cX12_goes 344 = .ok (.return_, 1) := by decide +kernel
theorem dX12_spelled_0 : decode cX12_spelled 0 = .ok (.iload_n 0, 1) := by decide +kernel
theorem dX12_spelled_1 : decode cX12_spelled 1 = .ok (.i2l, 1) := by decide +kernel
theorem dX12_spelled_2 : decode cX12_spelled 2 = .ok (.ldc2_w 163, 3) := by decide +kernel
theorem dX12_spelled_5 : decode cX12_spelled 5 = .ok (.lsub, 1) := by decide +kernel
theorem dX12_spelled_6 : decode cX12_spelled 6 = .ok (.iconst 5, 1) := by decide +kernel
theorem dX12_spelled_7 : decode cX12_spelled 7 = .ok (.lshl, 1) := by decide +kernel
theorem dX12_spelled_8 : decode cX12_spelled 8 = .ok (.iload_n 1, 1) := by decide +kernel
theorem dX12_spelled_9 : decode cX12_spelled 9 = .ok (.bipush 96, 2) := by decide +kernel
theorem dX12_spelled_11 : decode cX12_spelled 11 = .ok (.isub, 1) := by decide +kernel
theorem dX12_spelled_12 : decode cX12_spelled 12 = .ok (.i2l, 1) := by decide +kernel
theorem dX12_spelled_13 : decode cX12_spelled 13 = .ok (.lor, 1) := by decide +kernel
theorem dX12_spelled_14 : decode cX12_spelled 14 = .ok (.lstore 7, 2) := by decide +kernel
theorem dX12_spelled_16 : decode cX12_spelled 16 = .ok (.iload_n 2, 1) := by decide +kernel
theorem dX12_spelled_17 : decode cX12_spelled 17 = .ok (.ifCond .eq 15, 3) := by decide +kernel
theorem dX12_spelled_20 : decode cX12_spelled 20 = .ok (.lload 7, 2) := by decide +kernel
theorem dX12_spelled_22 : decode cX12_spelled 22 = .ok (.iconst 5, 1) := by decide +kernel
theorem dX12_spelled_23 : decode cX12_spelled 23 = .ok (.lshl, 1) := by decide +kernel
theorem dX12_spelled_24 : decode cX12_spelled 24 = .ok (.iload_n 2, 1) := by decide +kernel
theorem dX12_spelled_25 : decode cX12_spelled 25 = .ok (.bipush 96, 2) := by decide +kernel
theorem dX12_spelled_27 : decode cX12_spelled 27 = .ok (.isub, 1) := by decide +kernel
theorem dX12_spelled_28 : decode cX12_spelled 28 = .ok (.i2l, 1) := by decide +kernel
theorem dX12_spelled_29 : decode cX12_spelled 29 = .ok (.lor, 1) := by decide +kernel
theorem dX12_spelled_30 : decode cX12_spelled 30 = .ok (.lstore 7, 2) := by decide +kernel
theorem dX12_spelled_32 : decode cX12_spelled 32 = .ok (.iload_n 3, 1) := by decide +kernel
theorem dX12_spelled_33 : decode cX12_spelled 33 = .ok (.ifCond .eq 15, 3) := by decide +kernel
theorem dX12_spelled_36 : decode cX12_spelled 36 = .ok (.lload 7, 2) := by decide +kernel
theorem dX12_spelled_38 : decode cX12_spelled 38 = .ok (.iconst 5, 1) := by decide +kernel
theorem dX12_spelled_39 : decode cX12_spelled 39 = .ok (.lshl, 1) := by decide +kernel
theorem dX12_spelled_40 : decode cX12_spelled 40 = .ok (.iload_n 3, 1) := by decide +kernel
theorem dX12_spelled_41 : decode cX12_spelled 41 = .ok (.bipush 96, 2) := by decide +kernel
theorem dX12_spelled_43 : decode cX12_spelled 43 = .ok (.isub, 1) := by decide +kernel
theorem dX12_spelled_44 : decode cX12_spelled 44 = .ok (.i2l, 1) := by decide +kernel
theorem dX12_spelled_45 : decode cX12_spelled 45 = .ok (.lor, 1) := by decide +kernel
theorem dX12_spelled_46 : decode cX12_spelled 46 = .ok (.lstore 7, 2) := by decide +kernel
theorem dX12_spelled_48 : decode cX12_spelled 48 = .ok (.iload 4, 2) := by decide +kernel
theorem dX12_spelled_50 : decode cX12_spelled 50 = .ok (.ifCond .eq 16, 3) := by decide +kernel
theorem dX12_spelled_53 : decode cX12_spelled 53 = .ok (.lload 7, 2) := by decide +kernel
theorem dX12_spelled_55 : decode cX12_spelled 55 = .ok (.iconst 5, 1) := by decide +kernel
theorem dX12_spelled_56 : decode cX12_spelled 56 = .ok (.lshl, 1) := by decide +kernel
theorem dX12_spelled_57 : decode cX12_spelled 57 = .ok (.iload 4, 2) := by decide +kernel
theorem dX12_spelled_59 : decode cX12_spelled 59 = .ok (.bipush 96, 2) := by decide +kernel
theorem dX12_spelled_61 : decode cX12_spelled 61 = .ok (.isub, 1) := by decide +kernel
theorem dX12_spelled_62 : decode cX12_spelled 62 = .ok (.i2l, 1) := by decide +kernel
theorem dX12_spelled_63 : decode cX12_spelled 63 = .ok (.lor, 1) := by decide +kernel
theorem dX12_spelled_64 : decode cX12_spelled 64 = .ok (.lstore 7, 2) := by decide +kernel
theorem dX12_spelled_66 : decode cX12_spelled 66 = .ok (.iload 5, 2) := by decide +kernel
theorem dX12_spelled_68 : decode cX12_spelled 68 = .ok (.ifCond .eq 16, 3) := by decide +kernel
theorem dX12_spelled_71 : decode cX12_spelled 71 = .ok (.lload 7, 2) := by decide +kernel
theorem dX12_spelled_73 : decode cX12_spelled 73 = .ok (.iconst 5, 1) := by decide +kernel
theorem dX12_spelled_74 : decode cX12_spelled 74 = .ok (.lshl, 1) := by decide +kernel
theorem dX12_spelled_75 : decode cX12_spelled 75 = .ok (.iload 5, 2) := by decide +kernel
theorem dX12_spelled_77 : decode cX12_spelled 77 = .ok (.bipush 96, 2) := by decide +kernel
theorem dX12_spelled_79 : decode cX12_spelled 79 = .ok (.isub, 1) := by decide +kernel
theorem dX12_spelled_80 : decode cX12_spelled 80 = .ok (.i2l, 1) := by decide +kernel
theorem dX12_spelled_81 : decode cX12_spelled 81 = .ok (.lor, 1) := by decide +kernel
theorem dX12_spelled_82 : decode cX12_spelled 82 = .ok (.lstore 7, 2) := by decide +kernel
theorem dX12_spelled_84 : decode cX12_spelled 84 = .ok (.iload 6, 2) := by decide +kernel
theorem dX12_spelled_86 : decode cX12_spelled 86 = .ok (.ifCond .eq 16, 3) := by decide +kernel
theorem dX12_spelled_89 : decode cX12_spelled 89 = .ok (.lload 7, 2) := by decide +kernel
theorem dX12_spelled_91 : decode cX12_spelled 91 = .ok (.iconst 5, 1) := by decide +kernel
theorem dX12_spelled_92 : decode cX12_spelled 92 = .ok (.lshl, 1) := by decide +kernel
theorem dX12_spelled_93 : decode cX12_spelled 93 = .ok (.iload 6, 2) := by decide +kernel
theorem dX12_spelled_95 : decode cX12_spelled 95 = .ok (.bipush 96, 2) := by decide +kernel
theorem dX12_spelled_97 : decode cX12_spelled 97 = .ok (.isub, 1) := by decide +kernel
theorem dX12_spelled_98 : decode cX12_spelled 98 = .ok (.i2l, 1) := by decide +kernel
theorem dX12_spelled_99 : decode cX12_spelled 99 = .ok (.lor, 1) := by decide +kernel
theorem dX12_spelled_100 : decode cX12_spelled 100 = .ok (.lstore 7, 2) := by decide +kernel
theorem dX12_spelled_102 : decode cX12_spelled 102 = .ok (.lload 7, 2) := by decide +kernel
theorem dX12_spelled_104 : decode cX12_spelled 104 = .ok (.lreturn, 1) := by decide +kernel
theorem dX12_letters_0 : decode cX12_letters 0 = .ok (.iload_n 0, 1) := by decide +kernel
theorem dX12_letters_1 : decode cX12_letters 1 = .ok (.tableswitch 282 0 13 #[71, 86, 100, 116, 132, 146, 163, 178, 192, 208, 226, 240, 255, 269], 71) := by decide +kernel
theorem dX12_letters_72 : decode cX12_letters 72 = .ok (.bipush 108, 2) := by decide +kernel
theorem dX12_letters_74 : decode cX12_letters 74 = .ok (.bipush 117, 2) := by decide +kernel
theorem dX12_letters_76 : decode cX12_letters 76 = .ok (.bipush 99, 2) := by decide +kernel
theorem dX12_letters_78 : decode cX12_letters 78 = .ok (.bipush 107, 2) := by decide +kernel
theorem dX12_letters_80 : decode cX12_letters 80 = .ok (.iconst 0, 1) := by decide +kernel
theorem dX12_letters_81 : decode cX12_letters 81 = .ok (.iconst 0, 1) := by decide +kernel
theorem dX12_letters_82 : decode cX12_letters 82 = .ok (.iconst 0, 1) := by decide +kernel
theorem dX12_letters_83 : decode cX12_letters 83 = .ok (.invokestatic 165, 3) := by decide +kernel
theorem dX12_letters_86 : decode cX12_letters 86 = .ok (.lreturn, 1) := by decide +kernel
theorem dX12_letters_87 : decode cX12_letters 87 = .ok (.bipush 98, 2) := by decide +kernel
theorem dX12_letters_89 : decode cX12_letters 89 = .ok (.bipush 97, 2) := by decide +kernel
theorem dX12_letters_91 : decode cX12_letters 91 = .ok (.bipush 100, 2) := by decide +kernel
theorem dX12_letters_93 : decode cX12_letters 93 = .ok (.iconst 0, 1) := by decide +kernel
theorem dX12_letters_94 : decode cX12_letters 94 = .ok (.iconst 0, 1) := by decide +kernel
theorem dX12_letters_95 : decode cX12_letters 95 = .ok (.iconst 0, 1) := by decide +kernel
theorem dX12_letters_96 : decode cX12_letters 96 = .ok (.iconst 0, 1) := by decide +kernel
theorem dX12_letters_97 : decode cX12_letters 97 = .ok (.invokestatic 165, 3) := by decide +kernel
theorem dX12_letters_100 : decode cX12_letters 100 = .ok (.lreturn, 1) := by decide +kernel
theorem dX12_letters_101 : decode cX12_letters 101 = .ok (.bipush 115, 2) := by decide +kernel
theorem dX12_letters_103 : decode cX12_letters 103 = .ok (.bipush 116, 2) := by decide +kernel
theorem dX12_letters_105 : decode cX12_letters 105 = .ok (.bipush 97, 2) := by decide +kernel
theorem dX12_letters_107 : decode cX12_letters 107 = .ok (.bipush 107, 2) := by decide +kernel
theorem dX12_letters_109 : decode cX12_letters 109 = .ok (.bipush 101, 2) := by decide +kernel
theorem dX12_letters_111 : decode cX12_letters 111 = .ok (.iconst 0, 1) := by decide +kernel
theorem dX12_letters_112 : decode cX12_letters 112 = .ok (.iconst 0, 1) := by decide +kernel
theorem dX12_letters_113 : decode cX12_letters 113 = .ok (.invokestatic 165, 3) := by decide +kernel
theorem dX12_letters_116 : decode cX12_letters 116 = .ok (.lreturn, 1) := by decide +kernel
theorem dX12_letters_117 : decode cX12_letters 117 = .ok (.bipush 109, 2) := by decide +kernel
theorem dX12_letters_119 : decode cX12_letters 119 = .ok (.bipush 97, 2) := by decide +kernel
theorem dX12_letters_121 : decode cX12_letters 121 = .ok (.bipush 107, 2) := by decide +kernel
theorem dX12_letters_123 : decode cX12_letters 123 = .ok (.bipush 101, 2) := by decide +kernel
theorem dX12_letters_125 : decode cX12_letters 125 = .ok (.bipush 115, 2) := by decide +kernel
theorem dX12_letters_127 : decode cX12_letters 127 = .ok (.iconst 0, 1) := by decide +kernel
theorem dX12_letters_128 : decode cX12_letters 128 = .ok (.iconst 0, 1) := by decide +kernel
theorem dX12_letters_129 : decode cX12_letters 129 = .ok (.invokestatic 165, 3) := by decide +kernel
theorem dX12_letters_132 : decode cX12_letters 132 = .ok (.lreturn, 1) := by decide +kernel
theorem dX12_letters_133 : decode cX12_letters 133 = .ok (.bipush 100, 2) := by decide +kernel
theorem dX12_letters_135 : decode cX12_letters 135 = .ok (.bipush 97, 2) := by decide +kernel
theorem dX12_letters_137 : decode cX12_letters 137 = .ok (.bipush 121, 2) := by decide +kernel
theorem dX12_letters_139 : decode cX12_letters 139 = .ok (.iconst 0, 1) := by decide +kernel
theorem dX12_letters_140 : decode cX12_letters 140 = .ok (.iconst 0, 1) := by decide +kernel
theorem dX12_letters_141 : decode cX12_letters 141 = .ok (.iconst 0, 1) := by decide +kernel
theorem dX12_letters_142 : decode cX12_letters 142 = .ok (.iconst 0, 1) := by decide +kernel
theorem dX12_letters_143 : decode cX12_letters 143 = .ok (.invokestatic 165, 3) := by decide +kernel
theorem dX12_letters_146 : decode cX12_letters 146 = .ok (.lreturn, 1) := by decide +kernel
theorem dX12_letters_147 : decode cX12_letters 147 = .ok (.bipush 99, 2) := by decide +kernel
theorem dX12_letters_149 : decode cX12_letters 149 = .ok (.bipush 114, 2) := by decide +kernel
theorem dX12_letters_151 : decode cX12_letters 151 = .ok (.bipush 97, 2) := by decide +kernel
theorem dX12_letters_153 : decode cX12_letters 153 = .ok (.bipush 116, 2) := by decide +kernel
theorem dX12_letters_155 : decode cX12_letters 155 = .ok (.bipush 101, 2) := by decide +kernel
theorem dX12_letters_157 : decode cX12_letters 157 = .ok (.bipush 115, 2) := by decide +kernel
theorem dX12_letters_159 : decode cX12_letters 159 = .ok (.iconst 0, 1) := by decide +kernel
theorem dX12_letters_160 : decode cX12_letters 160 = .ok (.invokestatic 165, 3) := by decide +kernel
theorem dX12_letters_163 : decode cX12_letters 163 = .ok (.lreturn, 1) := by decide +kernel
theorem dX12_letters_164 : decode cX12_letters 164 = .ok (.bipush 116, 2) := by decide +kernel
theorem dX12_letters_166 : decode cX12_letters 166 = .ok (.bipush 111, 2) := by decide +kernel
theorem dX12_letters_168 : decode cX12_letters 168 = .ok (.bipush 119, 2) := by decide +kernel
theorem dX12_letters_170 : decode cX12_letters 170 = .ok (.bipush 110, 2) := by decide +kernel
theorem dX12_letters_172 : decode cX12_letters 172 = .ok (.iconst 0, 1) := by decide +kernel
theorem dX12_letters_173 : decode cX12_letters 173 = .ok (.iconst 0, 1) := by decide +kernel
theorem dX12_letters_174 : decode cX12_letters 174 = .ok (.iconst 0, 1) := by decide +kernel
theorem dX12_letters_175 : decode cX12_letters 175 = .ok (.invokestatic 165, 3) := by decide +kernel
theorem dX12_letters_178 : decode cX12_letters 178 = .ok (.lreturn, 1) := by decide +kernel
theorem dX12_letters_179 : decode cX12_letters 179 = .ok (.bipush 119, 2) := by decide +kernel
theorem dX12_letters_181 : decode cX12_letters 181 = .ok (.bipush 97, 2) := by decide +kernel
theorem dX12_letters_183 : decode cX12_letters 183 = .ok (.bipush 121, 2) := by decide +kernel
theorem dX12_letters_185 : decode cX12_letters 185 = .ok (.iconst 0, 1) := by decide +kernel
theorem dX12_letters_186 : decode cX12_letters 186 = .ok (.iconst 0, 1) := by decide +kernel
theorem dX12_letters_187 : decode cX12_letters 187 = .ok (.iconst 0, 1) := by decide +kernel
theorem dX12_letters_188 : decode cX12_letters 188 = .ok (.iconst 0, 1) := by decide +kernel
theorem dX12_letters_189 : decode cX12_letters 189 = .ok (.invokestatic 165, 3) := by decide +kernel
theorem dX12_letters_192 : decode cX12_letters 192 = .ok (.lreturn, 1) := by decide +kernel
theorem dX12_letters_193 : decode cX12_letters 193 = .ok (.bipush 99, 2) := by decide +kernel
theorem dX12_letters_195 : decode cX12_letters 195 = .ok (.bipush 114, 2) := by decide +kernel
theorem dX12_letters_197 : decode cX12_letters 197 = .ok (.bipush 97, 2) := by decide +kernel
theorem dX12_letters_199 : decode cX12_letters 199 = .ok (.bipush 116, 2) := by decide +kernel
theorem dX12_letters_201 : decode cX12_letters 201 = .ok (.bipush 101, 2) := by decide +kernel
theorem dX12_letters_203 : decode cX12_letters 203 = .ok (.iconst 0, 1) := by decide +kernel
theorem dX12_letters_204 : decode cX12_letters 204 = .ok (.iconst 0, 1) := by decide +kernel
theorem dX12_letters_205 : decode cX12_letters 205 = .ok (.invokestatic 165, 3) := by decide +kernel
theorem dX12_letters_208 : decode cX12_letters 208 = .ok (.lreturn, 1) := by decide +kernel
theorem dX12_letters_209 : decode cX12_letters 209 = .ok (.bipush 98, 2) := by decide +kernel
theorem dX12_letters_211 : decode cX12_letters 211 = .ok (.bipush 97, 2) := by decide +kernel
theorem dX12_letters_213 : decode cX12_letters 213 = .ok (.bipush 108, 2) := by decide +kernel
theorem dX12_letters_215 : decode cX12_letters 215 = .ok (.bipush 108, 2) := by decide +kernel
theorem dX12_letters_217 : decode cX12_letters 217 = .ok (.bipush 97, 2) := by decide +kernel
theorem dX12_letters_219 : decode cX12_letters 219 = .ok (.bipush 115, 2) := by decide +kernel
theorem dX12_letters_221 : decode cX12_letters 221 = .ok (.bipush 116, 2) := by decide +kernel
theorem dX12_letters_223 : decode cX12_letters 223 = .ok (.invokestatic 165, 3) := by decide +kernel
theorem dX12_letters_226 : decode cX12_letters 226 = .ok (.lreturn, 1) := by decide +kernel
theorem dX12_letters_227 : decode cX12_letters 227 = .ok (.bipush 99, 2) := by decide +kernel
theorem dX12_letters_229 : decode cX12_letters 229 = .ok (.bipush 97, 2) := by decide +kernel
theorem dX12_letters_231 : decode cX12_letters 231 = .ok (.bipush 116, 2) := by decide +kernel
theorem dX12_letters_233 : decode cX12_letters 233 = .ok (.iconst 0, 1) := by decide +kernel
theorem dX12_letters_234 : decode cX12_letters 234 = .ok (.iconst 0, 1) := by decide +kernel
theorem dX12_letters_235 : decode cX12_letters 235 = .ok (.iconst 0, 1) := by decide +kernel
theorem dX12_letters_236 : decode cX12_letters 236 = .ok (.iconst 0, 1) := by decide +kernel
theorem dX12_letters_237 : decode cX12_letters 237 = .ok (.invokestatic 165, 3) := by decide +kernel
theorem dX12_letters_240 : decode cX12_letters 240 = .ok (.lreturn, 1) := by decide +kernel
theorem dX12_letters_241 : decode cX12_letters 241 = .ok (.bipush 111, 2) := by decide +kernel
theorem dX12_letters_243 : decode cX12_letters 243 = .ok (.bipush 100, 2) := by decide +kernel
theorem dX12_letters_245 : decode cX12_letters 245 = .ok (.bipush 100, 2) := by decide +kernel
theorem dX12_letters_247 : decode cX12_letters 247 = .ok (.bipush 115, 2) := by decide +kernel
theorem dX12_letters_249 : decode cX12_letters 249 = .ok (.iconst 0, 1) := by decide +kernel
theorem dX12_letters_250 : decode cX12_letters 250 = .ok (.iconst 0, 1) := by decide +kernel
theorem dX12_letters_251 : decode cX12_letters 251 = .ok (.iconst 0, 1) := by decide +kernel
theorem dX12_letters_252 : decode cX12_letters 252 = .ok (.invokestatic 165, 3) := by decide +kernel
theorem dX12_letters_255 : decode cX12_letters 255 = .ok (.lreturn, 1) := by decide +kernel
theorem dX12_letters_256 : decode cX12_letters 256 = .ok (.bipush 97, 2) := by decide +kernel
theorem dX12_letters_258 : decode cX12_letters 258 = .ok (.bipush 110, 2) := by decide +kernel
theorem dX12_letters_260 : decode cX12_letters 260 = .ok (.bipush 100, 2) := by decide +kernel
theorem dX12_letters_262 : decode cX12_letters 262 = .ok (.iconst 0, 1) := by decide +kernel
theorem dX12_letters_263 : decode cX12_letters 263 = .ok (.iconst 0, 1) := by decide +kernel
theorem dX12_letters_264 : decode cX12_letters 264 = .ok (.iconst 0, 1) := by decide +kernel
theorem dX12_letters_265 : decode cX12_letters 265 = .ok (.iconst 0, 1) := by decide +kernel
theorem dX12_letters_266 : decode cX12_letters 266 = .ok (.invokestatic 165, 3) := by decide +kernel
theorem dX12_letters_269 : decode cX12_letters 269 = .ok (.lreturn, 1) := by decide +kernel
theorem dX12_letters_270 : decode cX12_letters 270 = .ok (.bipush 111, 2) := by decide +kernel
theorem dX12_letters_272 : decode cX12_letters 272 = .ok (.bipush 114, 2) := by decide +kernel
theorem dX12_letters_274 : decode cX12_letters 274 = .ok (.iconst 0, 1) := by decide +kernel
theorem dX12_letters_275 : decode cX12_letters 275 = .ok (.iconst 0, 1) := by decide +kernel
theorem dX12_letters_276 : decode cX12_letters 276 = .ok (.iconst 0, 1) := by decide +kernel
theorem dX12_letters_277 : decode cX12_letters 277 = .ok (.iconst 0, 1) := by decide +kernel
theorem dX12_letters_278 : decode cX12_letters 278 = .ok (.iconst 0, 1) := by decide +kernel
theorem dX12_letters_279 : decode cX12_letters 279 = .ok (.invokestatic 165, 3) := by decide +kernel
theorem dX12_letters_282 : decode cX12_letters 282 = .ok (.lreturn, 1) := by decide +kernel
theorem dX12_letters_283 : decode cX12_letters 283 = .ok (.bipush 110, 2) := by decide +kernel
theorem dX12_letters_285 : decode cX12_letters 285 = .ok (.bipush 111, 2) := by decide +kernel
theorem dX12_letters_287 : decode cX12_letters 287 = .ok (.bipush 116, 2) := by decide +kernel
theorem dX12_letters_289 : decode cX12_letters 289 = .ok (.iconst 0, 1) := by decide +kernel
theorem dX12_letters_290 : decode cX12_letters 290 = .ok (.iconst 0, 1) := by decide +kernel
theorem dX12_letters_291 : decode cX12_letters 291 = .ok (.iconst 0, 1) := by decide +kernel
theorem dX12_letters_292 : decode cX12_letters 292 = .ok (.iconst 0, 1) := by decide +kernel
theorem dX12_letters_293 : decode cX12_letters 293 = .ok (.invokestatic 165, 3) := by decide +kernel
theorem dX12_letters_296 : decode cX12_letters 296 = .ok (.lreturn, 1) := by decide +kernel
theorem dX12_knownWord_0 : decode cX12_knownWord 0 = .ok (.aload_n 0, 1) := by decide +kernel
theorem dX12_knownWord_1 : decode cX12_knownWord 1 = .ok (.getfield 150, 3) := by decide +kernel
theorem dX12_knownWord_4 : decode cX12_knownWord 4 = .ok (.iconst 1, 1) := by decide +kernel
theorem dX12_knownWord_5 : decode cX12_knownWord 5 = .ok (.if_icmp .ne 12, 3) := by decide +kernel
theorem dX12_knownWord_8 : decode cX12_knownWord 8 = .ok (.aload_n 0, 1) := by decide +kernel
theorem dX12_knownWord_9 : decode cX12_knownWord 9 = .ok (.getfield 160, 3) := by decide +kernel
theorem dX12_knownWord_12 : decode cX12_knownWord 12 = .ok (.bipush 7, 2) := by decide +kernel
theorem dX12_knownWord_14 : decode cX12_knownWord 14 = .ok (.if_icmp .le 5, 3) := by decide +kernel
theorem dX12_knownWord_17 : decode cX12_knownWord 17 = .ok (.iconst (-1), 1) := by decide +kernel
theorem dX12_knownWord_18 : decode cX12_knownWord 18 = .ok (.ireturn, 1) := by decide +kernel
theorem dX12_knownWord_19 : decode cX12_knownWord 19 = .ok (.iconst 0, 1) := by decide +kernel
theorem dX12_knownWord_20 : decode cX12_knownWord 20 = .ok (.istore_n 1, 1) := by decide +kernel
theorem dX12_knownWord_21 : decode cX12_knownWord 21 = .ok (.iload_n 1, 1) := by decide +kernel
theorem dX12_knownWord_22 : decode cX12_knownWord 22 = .ok (.bipush 15, 2) := by decide +kernel
theorem dX12_knownWord_24 : decode cX12_knownWord 24 = .ok (.if_icmp .ge 23, 3) := by decide +kernel
theorem dX12_knownWord_27 : decode cX12_knownWord 27 = .ok (.iload_n 1, 1) := by decide +kernel
theorem dX12_knownWord_28 : decode cX12_knownWord 28 = .ok (.invokestatic 169, 3) := by decide +kernel
theorem dX12_knownWord_31 : decode cX12_knownWord 31 = .ok (.aload_n 0, 1) := by decide +kernel
theorem dX12_knownWord_32 : decode cX12_knownWord 32 = .ok (.getfield 140, 3) := by decide +kernel
theorem dX12_knownWord_35 : decode cX12_knownWord 35 = .ok (.lcmp, 1) := by decide +kernel
theorem dX12_knownWord_36 : decode cX12_knownWord 36 = .ok (.ifCond .ne 5, 3) := by decide +kernel
theorem dX12_knownWord_39 : decode cX12_knownWord 39 = .ok (.iload_n 1, 1) := by decide +kernel
theorem dX12_knownWord_40 : decode cX12_knownWord 40 = .ok (.ireturn, 1) := by decide +kernel
theorem dX12_knownWord_41 : decode cX12_knownWord 41 = .ok (.iinc 1 1, 3) := by decide +kernel
theorem dX12_knownWord_44 : decode cX12_knownWord 44 = .ok (.goto (-23), 3) := by decide +kernel
theorem dX12_knownWord_47 : decode cX12_knownWord 47 = .ok (.iconst (-1), 1) := by decide +kernel
theorem dX12_knownWord_48 : decode cX12_knownWord 48 = .ok (.ireturn, 1) := by decide +kernel
theorem dX12_wrong_0 : decode cX12_wrong 0 = .ok (.aload_n 0, 1) := by decide +kernel
theorem dX12_wrong_1 : decode cX12_wrong 1 = .ok (.getfield 173, 3) := by decide +kernel
theorem dX12_wrong_4 : decode cX12_wrong 4 = .ok (.ifCond .eq 4, 3) := by decide +kernel
theorem dX12_wrong_7 : decode cX12_wrong 7 = .ok (.return_, 1) := by decide +kernel
theorem dX12_wrong_8 : decode cX12_wrong 8 = .ok (.aload_n 0, 1) := by decide +kernel
theorem dX12_wrong_9 : decode cX12_wrong 9 = .ok (.iload_n 1, 1) := by decide +kernel
theorem dX12_wrong_10 : decode cX12_wrong 10 = .ok (.putfield 173, 3) := by decide +kernel
theorem dX12_wrong_13 : decode cX12_wrong 13 = .ok (.aload_n 0, 1) := by decide +kernel
theorem dX12_wrong_14 : decode cX12_wrong 14 = .ok (.aload_n 0, 1) := by decide +kernel
theorem dX12_wrong_15 : decode cX12_wrong 15 = .ok (.getfield 137, 3) := by decide +kernel
theorem dX12_wrong_18 : decode cX12_wrong 18 = .ok (.putfield 38, 3) := by decide +kernel
theorem dX12_wrong_21 : decode cX12_wrong 21 = .ok (.return_, 1) := by decide +kernel
theorem dX12_isGood_0 : decode cX12_isGood 0 = .ok (.aload_n 0, 1) := by decide +kernel
theorem dX12_isGood_1 : decode cX12_isGood 1 = .ok (.getfield 173, 3) := by decide +kernel
theorem dX12_isGood_4 : decode cX12_isGood 4 = .ok (.ifCond .ne 7, 3) := by decide +kernel
theorem dX12_isGood_7 : decode cX12_isGood 7 = .ok (.iconst 1, 1) := by decide +kernel
theorem dX12_isGood_8 : decode cX12_isGood 8 = .ok (.goto 4, 3) := by decide +kernel
theorem dX12_isGood_11 : decode cX12_isGood 11 = .ok (.iconst 0, 1) := by decide +kernel
theorem dX12_isGood_12 : decode cX12_isGood 12 = .ok (.ireturn, 1) := by decide +kernel
theorem dX12_isSign_0 : decode cX12_isSign 0 = .ok (.aload_n 0, 1) := by decide +kernel
theorem dX12_isSign_1 : decode cX12_isSign 1 = .ok (.getfield 150, 3) := by decide +kernel
theorem dX12_isSign_4 : decode cX12_isSign 4 = .ok (.iconst 3, 1) := by decide +kernel
theorem dX12_isSign_5 : decode cX12_isSign 5 = .ok (.if_icmp .ne 15, 3) := by decide +kernel
theorem dX12_isSign_8 : decode cX12_isSign 8 = .ok (.aload_n 0, 1) := by decide +kernel
theorem dX12_isSign_9 : decode cX12_isSign 9 = .ok (.getfield 147, 3) := by decide +kernel
theorem dX12_isSign_12 : decode cX12_isSign 12 = .ok (.iload_n 1, 1) := by decide +kernel
theorem dX12_isSign_13 : decode cX12_isSign 13 = .ok (.if_icmp .ne 7, 3) := by decide +kernel
theorem dX12_isSign_16 : decode cX12_isSign 16 = .ok (.iconst 1, 1) := by decide +kernel
theorem dX12_isSign_17 : decode cX12_isSign 17 = .ok (.goto 4, 3) := by decide +kernel
theorem dX12_isSign_20 : decode cX12_isSign 20 = .ok (.iconst 0, 1) := by decide +kernel
theorem dX12_isSign_21 : decode cX12_isSign 21 = .ok (.ireturn, 1) := by decide +kernel
theorem dX12_need_0 : decode cX12_need 0 = .ok (.aload_n 0, 1) := by decide +kernel
theorem dX12_need_1 : decode cX12_need 1 = .ok (.invokevirtual 176, 3) := by decide +kernel
theorem dX12_need_4 : decode cX12_need 4 = .ok (.ifCond .ne 4, 3) := by decide +kernel
theorem dX12_need_7 : decode cX12_need 7 = .ok (.return_, 1) := by decide +kernel
theorem dX12_need_8 : decode cX12_need 8 = .ok (.iload_n 1, 1) := by decide +kernel
theorem dX12_need_9 : decode cX12_need 9 = .ok (.ifCond .eq 10, 3) := by decide +kernel
theorem dX12_need_12 : decode cX12_need 12 = .ok (.aload_n 0, 1) := by decide +kernel
theorem dX12_need_13 : decode cX12_need 13 = .ok (.invokevirtual 180, 3) := by decide +kernel
theorem dX12_need_16 : decode cX12_need 16 = .ok (.goto 8, 3) := by decide +kernel
theorem dX12_need_19 : decode cX12_need 19 = .ok (.aload_n 0, 1) := by decide +kernel
theorem dX12_need_20 : decode cX12_need 20 = .ok (.iconst 1, 1) := by decide +kernel
theorem dX12_need_21 : decode cX12_need 21 = .ok (.invokevirtual 183, 3) := by decide +kernel
theorem dX12_need_24 : decode cX12_need 24 = .ok (.return_, 1) := by decide +kernel
theorem dX12_number_0 : decode cX12_number 0 = .ok (.aload_n 0, 1) := by decide +kernel
theorem dX12_number_1 : decode cX12_number 1 = .ok (.invokevirtual 176, 3) := by decide +kernel
theorem dX12_number_4 : decode cX12_number 4 = .ok (.ifCond .ne 5, 3) := by decide +kernel
theorem dX12_number_7 : decode cX12_number 7 = .ok (.iconst 0, 1) := by decide +kernel
theorem dX12_number_8 : decode cX12_number 8 = .ok (.ireturn, 1) := by decide +kernel
theorem dX12_number_9 : decode cX12_number 9 = .ok (.aload_n 0, 1) := by decide +kernel
theorem dX12_number_10 : decode cX12_number 10 = .ok (.getfield 150, 3) := by decide +kernel
theorem dX12_number_13 : decode cX12_number 13 = .ok (.iconst 2, 1) := by decide +kernel
theorem dX12_number_14 : decode cX12_number 14 = .ok (.if_icmp .eq 11, 3) := by decide +kernel
theorem dX12_number_17 : decode cX12_number 17 = .ok (.aload_n 0, 1) := by decide +kernel
theorem dX12_number_18 : decode cX12_number 18 = .ok (.iconst 1, 1) := by decide +kernel
theorem dX12_number_19 : decode cX12_number 19 = .ok (.invokevirtual 183, 3) := by decide +kernel
theorem dX12_number_22 : decode cX12_number 22 = .ok (.goto 32, 3) := by decide +kernel
theorem dX12_number_25 : decode cX12_number 25 = .ok (.aload_n 0, 1) := by decide +kernel
theorem dX12_number_26 : decode cX12_number 26 = .ok (.getfield 160, 3) := by decide +kernel
theorem dX12_number_29 : decode cX12_number 29 = .ok (.iconst 4, 1) := by decide +kernel
theorem dX12_number_30 : decode cX12_number 30 = .ok (.if_icmp .gt 19, 3) := by decide +kernel
theorem dX12_number_33 : decode cX12_number 33 = .ok (.aload_n 0, 1) := by decide +kernel
theorem dX12_number_34 : decode cX12_number 34 = .ok (.getfield 144, 3) := by decide +kernel
theorem dX12_number_37 : decode cX12_number 37 = .ok (.iload_n 1, 1) := by decide +kernel
theorem dX12_number_38 : decode cX12_number 38 = .ok (.if_icmp .lt 11, 3) := by decide +kernel
theorem dX12_number_41 : decode cX12_number 41 = .ok (.aload_n 0, 1) := by decide +kernel
theorem dX12_number_42 : decode cX12_number 42 = .ok (.getfield 144, 3) := by decide +kernel
theorem dX12_number_45 : decode cX12_number 45 = .ok (.iload_n 2, 1) := by decide +kernel
theorem dX12_number_46 : decode cX12_number 46 = .ok (.if_icmp .le 8, 3) := by decide +kernel
theorem dX12_number_49 : decode cX12_number 49 = .ok (.aload_n 0, 1) := by decide +kernel
theorem dX12_number_50 : decode cX12_number 50 = .ok (.iconst 2, 1) := by decide +kernel
theorem dX12_number_51 : decode cX12_number 51 = .ok (.invokevirtual 183, 3) := by decide +kernel
theorem dX12_number_54 : decode cX12_number 54 = .ok (.aload_n 0, 1) := by decide +kernel
theorem dX12_number_55 : decode cX12_number 55 = .ok (.getfield 144, 3) := by decide +kernel
theorem dX12_number_58 : decode cX12_number 58 = .ok (.istore_n 3, 1) := by decide +kernel
theorem dX12_number_59 : decode cX12_number 59 = .ok (.aload_n 0, 1) := by decide +kernel
theorem dX12_number_60 : decode cX12_number 60 = .ok (.invokevirtual 176, 3) := by decide +kernel
theorem dX12_number_63 : decode cX12_number 63 = .ok (.ifCond .eq 7, 3) := by decide +kernel
theorem dX12_number_66 : decode cX12_number 66 = .ok (.aload_n 0, 1) := by decide +kernel
theorem dX12_number_67 : decode cX12_number 67 = .ok (.invokevirtual 180, 3) := by decide +kernel
theorem dX12_number_70 : decode cX12_number 70 = .ok (.iload_n 3, 1) := by decide +kernel
theorem dX12_number_71 : decode cX12_number 71 = .ok (.ireturn, 1) := by decide +kernel
theorem dX12_amongHere_0 : decode cX12_amongHere 0 = .ok (.aload_n 0, 1) := by decide +kernel
theorem dX12_amongHere_1 : decode cX12_amongHere 1 = .ok (.invokevirtual 176, 3) := by decide +kernel
theorem dX12_amongHere_4 : decode cX12_amongHere 4 = .ok (.ifCond .ne 5, 3) := by decide +kernel
theorem dX12_amongHere_7 : decode cX12_amongHere 7 = .ok (.iconst 0, 1) := by decide +kernel
theorem dX12_amongHere_8 : decode cX12_amongHere 8 = .ok (.ireturn, 1) := by decide +kernel
theorem dX12_amongHere_9 : decode cX12_amongHere 9 = .ok (.aload_n 0, 1) := by decide +kernel
theorem dX12_amongHere_10 : decode cX12_amongHere 10 = .ok (.getfield 150, 3) := by decide +kernel
theorem dX12_amongHere_13 : decode cX12_amongHere 13 = .ok (.iconst 2, 1) := by decide +kernel
theorem dX12_amongHere_14 : decode cX12_amongHere 14 = .ok (.if_icmp .eq 11, 3) := by decide +kernel
theorem dX12_amongHere_17 : decode cX12_amongHere 17 = .ok (.aload_n 0, 1) := by decide +kernel
theorem dX12_amongHere_18 : decode cX12_amongHere 18 = .ok (.iconst 1, 1) := by decide +kernel
theorem dX12_amongHere_19 : decode cX12_amongHere 19 = .ok (.invokevirtual 183, 3) := by decide +kernel
theorem dX12_amongHere_22 : decode cX12_amongHere 22 = .ok (.goto 32, 3) := by decide +kernel
theorem dX12_amongHere_25 : decode cX12_amongHere 25 = .ok (.aload_n 0, 1) := by decide +kernel
theorem dX12_amongHere_26 : decode cX12_amongHere 26 = .ok (.getfield 160, 3) := by decide +kernel
theorem dX12_amongHere_29 : decode cX12_amongHere 29 = .ok (.iconst 4, 1) := by decide +kernel
theorem dX12_amongHere_30 : decode cX12_amongHere 30 = .ok (.if_icmp .le 11, 3) := by decide +kernel
theorem dX12_amongHere_33 : decode cX12_amongHere 33 = .ok (.aload_n 0, 1) := by decide +kernel
theorem dX12_amongHere_34 : decode cX12_amongHere 34 = .ok (.iconst 2, 1) := by decide +kernel
theorem dX12_amongHere_35 : decode cX12_amongHere 35 = .ok (.invokevirtual 183, 3) := by decide +kernel
theorem dX12_amongHere_38 : decode cX12_amongHere 38 = .ok (.goto 16, 3) := by decide +kernel
theorem dX12_amongHere_41 : decode cX12_amongHere 41 = .ok (.aload_n 0, 1) := by decide +kernel
theorem dX12_amongHere_42 : decode cX12_amongHere 42 = .ok (.getfield 144, 3) := by decide +kernel
theorem dX12_amongHere_45 : decode cX12_amongHere 45 = .ok (.iload_n 1, 1) := by decide +kernel
theorem dX12_amongHere_46 : decode cX12_amongHere 46 = .ok (.if_icmp .lt 8, 3) := by decide +kernel
theorem dX12_amongHere_49 : decode cX12_amongHere 49 = .ok (.aload_n 0, 1) := by decide +kernel
theorem dX12_amongHere_50 : decode cX12_amongHere 50 = .ok (.iconst 3, 1) := by decide +kernel
theorem dX12_amongHere_51 : decode cX12_amongHere 51 = .ok (.invokevirtual 183, 3) := by decide +kernel
theorem dX12_amongHere_54 : decode cX12_amongHere 54 = .ok (.aload_n 0, 1) := by decide +kernel
theorem dX12_amongHere_55 : decode cX12_amongHere 55 = .ok (.invokevirtual 176, 3) := by decide +kernel
theorem dX12_amongHere_58 : decode cX12_amongHere 58 = .ok (.ireturn, 1) := by decide +kernel
theorem dX12_among_0 : decode cX12_among 0 = .ok (.aload_n 0, 1) := by decide +kernel
theorem dX12_among_1 : decode cX12_among 1 = .ok (.iload_n 1, 1) := by decide +kernel
theorem dX12_among_2 : decode cX12_among 2 = .ok (.invokevirtual 186, 3) := by decide +kernel
theorem dX12_among_5 : decode cX12_among 5 = .ok (.ifCond .eq 10, 3) := by decide +kernel
theorem dX12_among_8 : decode cX12_among 8 = .ok (.aload_n 0, 1) := by decide +kernel
theorem dX12_among_9 : decode cX12_among 9 = .ok (.getfield 144, 3) := by decide +kernel
theorem dX12_among_12 : decode cX12_among 12 = .ok (.goto 4, 3) := by decide +kernel
theorem dX12_among_15 : decode cX12_among 15 = .ok (.iconst 0, 1) := by decide +kernel
theorem dX12_among_16 : decode cX12_among 16 = .ok (.istore_n 2, 1) := by decide +kernel
theorem dX12_among_17 : decode cX12_among 17 = .ok (.aload_n 0, 1) := by decide +kernel
theorem dX12_among_18 : decode cX12_among 18 = .ok (.invokevirtual 176, 3) := by decide +kernel
theorem dX12_among_21 : decode cX12_among 21 = .ok (.ifCond .eq 7, 3) := by decide +kernel
theorem dX12_among_24 : decode cX12_among 24 = .ok (.aload_n 0, 1) := by decide +kernel
theorem dX12_among_25 : decode cX12_among 25 = .ok (.invokevirtual 180, 3) := by decide +kernel
theorem dX12_among_28 : decode cX12_among 28 = .ok (.iload_n 2, 1) := by decide +kernel
theorem dX12_among_29 : decode cX12_among 29 = .ok (.ireturn, 1) := by decide +kernel
theorem dX12_puts_0 : decode cX12_puts 0 = .ok (.aload_n 0, 1) := by decide +kernel
theorem dX12_puts_1 : decode cX12_puts 1 = .ok (.getfield 65, 3) := by decide +kernel
theorem dX12_puts_4 : decode cX12_puts 4 = .ok (.aload_n 0, 1) := by decide +kernel
theorem dX12_puts_5 : decode cX12_puts 5 = .ok (.getfield 189, 3) := by decide +kernel
theorem dX12_puts_8 : decode cX12_puts 8 = .ok (.iload_n 1, 1) := by decide +kernel
theorem dX12_puts_9 : decode cX12_puts 9 = .ok (.iastore, 1) := by decide +kernel
theorem dX12_puts_10 : decode cX12_puts 10 = .ok (.aload_n 0, 1) := by decide +kernel
theorem dX12_puts_11 : decode cX12_puts 11 = .ok (.dup, 1) := by decide +kernel
theorem dX12_puts_12 : decode cX12_puts 12 = .ok (.getfield 189, 3) := by decide +kernel
theorem dX12_puts_15 : decode cX12_puts 15 = .ok (.iconst 1, 1) := by decide +kernel
theorem dX12_puts_16 : decode cX12_puts 16 = .ok (.iadd, 1) := by decide +kernel
theorem dX12_puts_17 : decode cX12_puts 17 = .ok (.putfield 189, 3) := by decide +kernel
theorem dX12_puts_20 : decode cX12_puts 20 = .ok (.return_, 1) := by decide +kernel
theorem dX12_isOpen_0 : decode cX12_isOpen 0 = .ok (.iload_n 0, 1) := by decide +kernel
theorem dX12_isOpen_1 : decode cX12_isOpen 1 = .ok (.bipush 14, 2) := by decide +kernel
theorem dX12_isOpen_3 : decode cX12_isOpen 3 = .ok (.if_icmp .lt 7, 3) := by decide +kernel
theorem dX12_isOpen_6 : decode cX12_isOpen 6 = .ok (.iconst 1, 1) := by decide +kernel
theorem dX12_isOpen_7 : decode cX12_isOpen 7 = .ok (.goto 4, 3) := by decide +kernel
theorem dX12_isOpen_10 : decode cX12_isOpen 10 = .ok (.iconst 0, 1) := by decide +kernel
theorem dX12_isOpen_11 : decode cX12_isOpen 11 = .ok (.ireturn, 1) := by decide +kernel
theorem dX12_strength_0 : decode cX12_strength 0 = .ok (.iload_n 0, 1) := by decide +kernel
theorem dX12_strength_1 : decode cX12_strength 1 = .ok (.iconst 5, 1) := by decide +kernel
theorem dX12_strength_2 : decode cX12_strength 2 = .ok (.if_icmp .ne 7, 3) := by decide +kernel
theorem dX12_strength_5 : decode cX12_strength 5 = .ok (.iconst 1, 1) := by decide +kernel
theorem dX12_strength_6 : decode cX12_strength 6 = .ok (.goto 55, 3) := by decide +kernel
theorem dX12_strength_9 : decode cX12_strength 9 = .ok (.iload_n 0, 1) := by decide +kernel
theorem dX12_strength_10 : decode cX12_strength 10 = .ok (.iconst 4, 1) := by decide +kernel
theorem dX12_strength_11 : decode cX12_strength 11 = .ok (.if_icmp .ne 7, 3) := by decide +kernel
theorem dX12_strength_14 : decode cX12_strength 14 = .ok (.iconst 2, 1) := by decide +kernel
theorem dX12_strength_15 : decode cX12_strength 15 = .ok (.goto 46, 3) := by decide +kernel
theorem dX12_strength_18 : decode cX12_strength 18 = .ok (.iload_n 0, 1) := by decide +kernel
theorem dX12_strength_19 : decode cX12_strength 19 = .ok (.iconst 3, 1) := by decide +kernel
theorem dX12_strength_20 : decode cX12_strength 20 = .ok (.if_icmp .ne 7, 3) := by decide +kernel
theorem dX12_strength_23 : decode cX12_strength 23 = .ok (.iconst 3, 1) := by decide +kernel
theorem dX12_strength_24 : decode cX12_strength 24 = .ok (.goto 37, 3) := by decide +kernel
theorem dX12_strength_27 : decode cX12_strength 27 = .ok (.iload_n 0, 1) := by decide +kernel
theorem dX12_strength_28 : decode cX12_strength 28 = .ok (.bipush 6, 2) := by decide +kernel
theorem dX12_strength_30 : decode cX12_strength 30 = .ok (.if_icmp .eq 9, 3) := by decide +kernel
theorem dX12_strength_33 : decode cX12_strength 33 = .ok (.iload_n 0, 1) := by decide +kernel
theorem dX12_strength_34 : decode cX12_strength 34 = .ok (.bipush 7, 2) := by decide +kernel
theorem dX12_strength_36 : decode cX12_strength 36 = .ok (.if_icmp .ne 7, 3) := by decide +kernel
theorem dX12_strength_39 : decode cX12_strength 39 = .ok (.iconst 4, 1) := by decide +kernel
theorem dX12_strength_40 : decode cX12_strength 40 = .ok (.goto 21, 3) := by decide +kernel
theorem dX12_strength_43 : decode cX12_strength 43 = .ok (.iload_n 0, 1) := by decide +kernel
theorem dX12_strength_44 : decode cX12_strength 44 = .ok (.bipush 8, 2) := by decide +kernel
theorem dX12_strength_46 : decode cX12_strength 46 = .ok (.if_icmp .eq 9, 3) := by decide +kernel
theorem dX12_strength_49 : decode cX12_strength 49 = .ok (.iload_n 0, 1) := by decide +kernel
theorem dX12_strength_50 : decode cX12_strength 50 = .ok (.bipush 9, 2) := by decide +kernel
theorem dX12_strength_52 : decode cX12_strength 52 = .ok (.if_icmp .ne 7, 3) := by decide +kernel
theorem dX12_strength_55 : decode cX12_strength 55 = .ok (.iconst 5, 1) := by decide +kernel
theorem dX12_strength_56 : decode cX12_strength 56 = .ok (.goto 5, 3) := by decide +kernel
theorem dX12_strength_59 : decode cX12_strength 59 = .ok (.bipush 6, 2) := by decide +kernel
theorem dX12_strength_61 : decode cX12_strength 61 = .ok (.ireturn, 1) := by decide +kernel
theorem dX12_drops_0 : decode cX12_drops 0 = .ok (.aload_n 0, 1) := by decide +kernel
theorem dX12_drops_1 : decode cX12_drops 1 = .ok (.getfield 192, 3) := by decide +kernel
theorem dX12_drops_4 : decode cX12_drops 4 = .ok (.ifCond .le 64, 3) := by decide +kernel
theorem dX12_drops_7 : decode cX12_drops 7 = .ok (.aload_n 0, 1) := by decide +kernel
theorem dX12_drops_8 : decode cX12_drops 8 = .ok (.getfield 68, 3) := by decide +kernel
theorem dX12_drops_11 : decode cX12_drops 11 = .ok (.aload_n 0, 1) := by decide +kernel
theorem dX12_drops_12 : decode cX12_drops 12 = .ok (.getfield 192, 3) := by decide +kernel
theorem dX12_drops_15 : decode cX12_drops 15 = .ok (.iconst 1, 1) := by decide +kernel
theorem dX12_drops_16 : decode cX12_drops 16 = .ok (.isub, 1) := by decide +kernel
theorem dX12_drops_17 : decode cX12_drops 17 = .ok (.iaload, 1) := by decide +kernel
theorem dX12_drops_18 : decode cX12_drops 18 = .ok (.invokestatic 195, 3) := by decide +kernel
theorem dX12_drops_21 : decode cX12_drops 21 = .ok (.ifCond .ne 47, 3) := by decide +kernel
theorem dX12_drops_24 : decode cX12_drops 24 = .ok (.aload_n 0, 1) := by decide +kernel
theorem dX12_drops_25 : decode cX12_drops 25 = .ok (.getfield 68, 3) := by decide +kernel
theorem dX12_drops_28 : decode cX12_drops 28 = .ok (.aload_n 0, 1) := by decide +kernel
theorem dX12_drops_29 : decode cX12_drops 29 = .ok (.getfield 192, 3) := by decide +kernel
theorem dX12_drops_32 : decode cX12_drops 32 = .ok (.iconst 1, 1) := by decide +kernel
theorem dX12_drops_33 : decode cX12_drops 33 = .ok (.isub, 1) := by decide +kernel
theorem dX12_drops_34 : decode cX12_drops 34 = .ok (.iaload, 1) := by decide +kernel
theorem dX12_drops_35 : decode cX12_drops 35 = .ok (.invokestatic 198, 3) := by decide +kernel
theorem dX12_drops_38 : decode cX12_drops 38 = .ok (.iload_n 1, 1) := by decide +kernel
theorem dX12_drops_39 : decode cX12_drops 39 = .ok (.if_icmp .lt 29, 3) := by decide +kernel
theorem dX12_drops_42 : decode cX12_drops 42 = .ok (.aload_n 0, 1) := by decide +kernel
theorem dX12_drops_43 : decode cX12_drops 43 = .ok (.dup, 1) := by decide +kernel
theorem dX12_drops_44 : decode cX12_drops 44 = .ok (.getfield 192, 3) := by decide +kernel
theorem dX12_drops_47 : decode cX12_drops 47 = .ok (.iconst 1, 1) := by decide +kernel
theorem dX12_drops_48 : decode cX12_drops 48 = .ok (.isub, 1) := by decide +kernel
theorem dX12_drops_49 : decode cX12_drops 49 = .ok (.putfield 192, 3) := by decide +kernel
theorem dX12_drops_52 : decode cX12_drops 52 = .ok (.aload_n 0, 1) := by decide +kernel
theorem dX12_drops_53 : decode cX12_drops 53 = .ok (.aload_n 0, 1) := by decide +kernel
theorem dX12_drops_54 : decode cX12_drops 54 = .ok (.getfield 68, 3) := by decide +kernel
theorem dX12_drops_57 : decode cX12_drops 57 = .ok (.aload_n 0, 1) := by decide +kernel
theorem dX12_drops_58 : decode cX12_drops 58 = .ok (.getfield 192, 3) := by decide +kernel
theorem dX12_drops_61 : decode cX12_drops 61 = .ok (.iaload, 1) := by decide +kernel
theorem dX12_drops_62 : decode cX12_drops 62 = .ok (.invokevirtual 201, 3) := by decide +kernel
theorem dX12_drops_65 : decode cX12_drops 65 = .ok (.goto (-65), 3) := by decide +kernel
theorem dX12_drops_68 : decode cX12_drops 68 = .ok (.return_, 1) := by decide +kernel
theorem dX12_waitsFor_0 : decode cX12_waitsFor 0 = .ok (.aload_n 0, 1) := by decide +kernel
theorem dX12_waitsFor_1 : decode cX12_waitsFor 1 = .ok (.getfield 68, 3) := by decide +kernel
theorem dX12_waitsFor_4 : decode cX12_waitsFor 4 = .ok (.aload_n 0, 1) := by decide +kernel
theorem dX12_waitsFor_5 : decode cX12_waitsFor 5 = .ok (.getfield 192, 3) := by decide +kernel
theorem dX12_waitsFor_8 : decode cX12_waitsFor 8 = .ok (.iload_n 1, 1) := by decide +kernel
theorem dX12_waitsFor_9 : decode cX12_waitsFor 9 = .ok (.iastore, 1) := by decide +kernel
theorem dX12_waitsFor_10 : decode cX12_waitsFor 10 = .ok (.aload_n 0, 1) := by decide +kernel
theorem dX12_waitsFor_11 : decode cX12_waitsFor 11 = .ok (.dup, 1) := by decide +kernel
theorem dX12_waitsFor_12 : decode cX12_waitsFor 12 = .ok (.getfield 192, 3) := by decide +kernel
theorem dX12_waitsFor_15 : decode cX12_waitsFor 15 = .ok (.iconst 1, 1) := by decide +kernel
theorem dX12_waitsFor_16 : decode cX12_waitsFor 16 = .ok (.iadd, 1) := by decide +kernel
theorem dX12_waitsFor_17 : decode cX12_waitsFor 17 = .ok (.putfield 192, 3) := by decide +kernel
theorem dX12_waitsFor_20 : decode cX12_waitsFor 20 = .ok (.return_, 1) := by decide +kernel
theorem dX12_part_0 : decode cX12_part 0 = .ok (.aload_n 0, 1) := by decide +kernel
theorem dX12_part_1 : decode cX12_part 1 = .ok (.invokevirtual 176, 3) := by decide +kernel
theorem dX12_part_4 : decode cX12_part 4 = .ok (.ifCond .ne 4, 3) := by decide +kernel
theorem dX12_part_7 : decode cX12_part 7 = .ok (.return_, 1) := by decide +kernel
theorem dX12_part_8 : decode cX12_part 8 = .ok (.aload_n 0, 1) := by decide +kernel
theorem dX12_part_9 : decode cX12_part 9 = .ok (.getfield 150, 3) := by decide +kernel
theorem dX12_part_12 : decode cX12_part 12 = .ok (.iconst 2, 1) := by decide +kernel
theorem dX12_part_13 : decode cX12_part 13 = .ok (.if_icmp .ne 32, 3) := by decide +kernel
theorem dX12_part_16 : decode cX12_part 16 = .ok (.aload_n 0, 1) := by decide +kernel
theorem dX12_part_17 : decode cX12_part 17 = .ok (.getfield 160, 3) := by decide +kernel
theorem dX12_part_20 : decode cX12_part 20 = .ok (.iconst 4, 1) := by decide +kernel
theorem dX12_part_21 : decode cX12_part 21 = .ok (.if_icmp .le 8, 3) := by decide +kernel
theorem dX12_part_24 : decode cX12_part 24 = .ok (.aload_n 0, 1) := by decide +kernel
theorem dX12_part_25 : decode cX12_part 25 = .ok (.iconst 2, 1) := by decide +kernel
theorem dX12_part_26 : decode cX12_part 26 = .ok (.invokevirtual 183, 3) := by decide +kernel
theorem dX12_part_29 : decode cX12_part 29 = .ok (.aload_n 0, 1) := by decide +kernel
theorem dX12_part_30 : decode cX12_part 30 = .ok (.iconst 1, 1) := by decide +kernel
theorem dX12_part_31 : decode cX12_part 31 = .ok (.invokevirtual 201, 3) := by decide +kernel
theorem dX12_part_34 : decode cX12_part 34 = .ok (.aload_n 0, 1) := by decide +kernel
theorem dX12_part_35 : decode cX12_part 35 = .ok (.aload_n 0, 1) := by decide +kernel
theorem dX12_part_36 : decode cX12_part 36 = .ok (.getfield 144, 3) := by decide +kernel
theorem dX12_part_39 : decode cX12_part 39 = .ok (.invokevirtual 201, 3) := by decide +kernel
theorem dX12_part_42 : decode cX12_part 42 = .ok (.goto 48, 3) := by decide +kernel
theorem dX12_part_45 : decode cX12_part 45 = .ok (.aload_n 0, 1) := by decide +kernel
theorem dX12_part_46 : decode cX12_part 46 = .ok (.getfield 150, 3) := by decide +kernel
theorem dX12_part_49 : decode cX12_part 49 = .ok (.iconst 1, 1) := by decide +kernel
theorem dX12_part_50 : decode cX12_part 50 = .ok (.if_icmp .ne 35, 3) := by decide +kernel
theorem dX12_part_53 : decode cX12_part 53 = .ok (.aload_n 0, 1) := by decide +kernel
theorem dX12_part_54 : decode cX12_part 54 = .ok (.invokevirtual 204, 3) := by decide +kernel
theorem dX12_part_57 : decode cX12_part 57 = .ok (.istore_n 1, 1) := by decide +kernel
theorem dX12_part_58 : decode cX12_part 58 = .ok (.iload_n 1, 1) := by decide +kernel
theorem dX12_part_59 : decode cX12_part 59 = .ok (.ifCond .lt 8, 3) := by decide +kernel
theorem dX12_part_62 : decode cX12_part 62 = .ok (.iload_n 1, 1) := by decide +kernel
theorem dX12_part_63 : decode cX12_part 63 = .ok (.iconst 5, 1) := by decide +kernel
theorem dX12_part_64 : decode cX12_part 64 = .ok (.if_icmp .le 8, 3) := by decide +kernel
theorem dX12_part_67 : decode cX12_part 67 = .ok (.aload_n 0, 1) := by decide +kernel
theorem dX12_part_68 : decode cX12_part 68 = .ok (.iconst 3, 1) := by decide +kernel
theorem dX12_part_69 : decode cX12_part 69 = .ok (.invokevirtual 183, 3) := by decide +kernel
theorem dX12_part_72 : decode cX12_part 72 = .ok (.aload_n 0, 1) := by decide +kernel
theorem dX12_part_73 : decode cX12_part 73 = .ok (.iconst 2, 1) := by decide +kernel
theorem dX12_part_74 : decode cX12_part 74 = .ok (.invokevirtual 201, 3) := by decide +kernel
theorem dX12_part_77 : decode cX12_part 77 = .ok (.aload_n 0, 1) := by decide +kernel
theorem dX12_part_78 : decode cX12_part 78 = .ok (.iload_n 1, 1) := by decide +kernel
theorem dX12_part_79 : decode cX12_part 79 = .ok (.invokevirtual 201, 3) := by decide +kernel
theorem dX12_part_82 : decode cX12_part 82 = .ok (.goto 8, 3) := by decide +kernel
theorem dX12_part_85 : decode cX12_part 85 = .ok (.aload_n 0, 1) := by decide +kernel
theorem dX12_part_86 : decode cX12_part 86 = .ok (.iconst 1, 1) := by decide +kernel
theorem dX12_part_87 : decode cX12_part 87 = .ok (.invokevirtual 183, 3) := by decide +kernel
theorem dX12_part_90 : decode cX12_part 90 = .ok (.aload_n 0, 1) := by decide +kernel
theorem dX12_part_91 : decode cX12_part 91 = .ok (.invokevirtual 176, 3) := by decide +kernel
theorem dX12_part_94 : decode cX12_part 94 = .ok (.ifCond .eq 7, 3) := by decide +kernel
theorem dX12_part_97 : decode cX12_part 97 = .ok (.aload_n 0, 1) := by decide +kernel
theorem dX12_part_98 : decode cX12_part 98 = .ok (.invokevirtual 180, 3) := by decide +kernel
theorem dX12_part_101 : decode cX12_part 101 = .ok (.return_, 1) := by decide +kernel
theorem dX12_deeper_0 : decode cX12_deeper 0 = .ok (.aload_n 0, 1) := by decide +kernel
theorem dX12_deeper_1 : decode cX12_deeper 1 = .ok (.getfield 208, 3) := by decide +kernel
theorem dX12_deeper_4 : decode cX12_deeper 4 = .ok (.bipush 6, 2) := by decide +kernel
theorem dX12_deeper_6 : decode cX12_deeper 6 = .ok (.if_icmp .ge 24, 3) := by decide +kernel
theorem dX12_deeper_9 : decode cX12_deeper 9 = .ok (.aload_n 0, 1) := by decide +kernel
theorem dX12_deeper_10 : decode cX12_deeper 10 = .ok (.dup, 1) := by decide +kernel
theorem dX12_deeper_11 : decode cX12_deeper 11 = .ok (.getfield 208, 3) := by decide +kernel
theorem dX12_deeper_14 : decode cX12_deeper 14 = .ok (.iconst 1, 1) := by decide +kernel
theorem dX12_deeper_15 : decode cX12_deeper 15 = .ok (.iadd, 1) := by decide +kernel
theorem dX12_deeper_16 : decode cX12_deeper 16 = .ok (.putfield 208, 3) := by decide +kernel
theorem dX12_deeper_19 : decode cX12_deeper 19 = .ok (.aload_n 0, 1) := by decide +kernel
theorem dX12_deeper_20 : decode cX12_deeper 20 = .ok (.getfield 71, 3) := by decide +kernel
theorem dX12_deeper_23 : decode cX12_deeper 23 = .ok (.aload_n 0, 1) := by decide +kernel
theorem dX12_deeper_24 : decode cX12_deeper 24 = .ok (.getfield 208, 3) := by decide +kernel
theorem dX12_deeper_27 : decode cX12_deeper 27 = .ok (.iconst 0, 1) := by decide +kernel
theorem dX12_deeper_28 : decode cX12_deeper 28 = .ok (.bastore, 1) := by decide +kernel
theorem dX12_deeper_29 : decode cX12_deeper 29 = .ok (.return_, 1) := by decide +kernel
theorem dX12_deeper_30 : decode cX12_deeper 30 = .ok (.aload_n 0, 1) := by decide +kernel
theorem dX12_deeper_31 : decode cX12_deeper 31 = .ok (.aload_n 0, 1) := by decide +kernel
theorem dX12_deeper_32 : decode cX12_deeper 32 = .ok (.getfield 150, 3) := by decide +kernel
theorem dX12_deeper_35 : decode cX12_deeper 35 = .ok (.iconst 2, 1) := by decide +kernel
theorem dX12_deeper_36 : decode cX12_deeper 36 = .ok (.if_icmp .eq 20, 3) := by decide +kernel
theorem dX12_deeper_39 : decode cX12_deeper 39 = .ok (.aload_n 0, 1) := by decide +kernel
theorem dX12_deeper_40 : decode cX12_deeper 40 = .ok (.getfield 150, 3) := by decide +kernel
theorem dX12_deeper_43 : decode cX12_deeper 43 = .ok (.iconst 1, 1) := by decide +kernel
theorem dX12_deeper_44 : decode cX12_deeper 44 = .ok (.if_icmp .eq 12, 3) := by decide +kernel
theorem dX12_deeper_47 : decode cX12_deeper 47 = .ok (.aload_n 0, 1) := by decide +kernel
theorem dX12_deeper_48 : decode cX12_deeper 48 = .ok (.bipush 40, 2) := by decide +kernel
theorem dX12_deeper_50 : decode cX12_deeper 50 = .ok (.invokevirtual 211, 3) := by decide +kernel
theorem dX12_deeper_53 : decode cX12_deeper 53 = .ok (.ifCond .eq 7, 3) := by decide +kernel
theorem dX12_deeper_56 : decode cX12_deeper 56 = .ok (.iconst 2, 1) := by decide +kernel
theorem dX12_deeper_57 : decode cX12_deeper 57 = .ok (.goto 4, 3) := by decide +kernel
theorem dX12_deeper_60 : decode cX12_deeper 60 = .ok (.iconst 1, 1) := by decide +kernel
theorem dX12_deeper_61 : decode cX12_deeper 61 = .ok (.invokevirtual 183, 3) := by decide +kernel
theorem dX12_deeper_64 : decode cX12_deeper 64 = .ok (.return_, 1) := by decide +kernel
theorem dX12_operand_0 : decode cX12_operand 0 = .ok (.iload_n 1, 1) := by decide +kernel
theorem dX12_operand_1 : decode cX12_operand 1 = .ok (.istore_n 2, 1) := by decide +kernel
theorem dX12_operand_2 : decode cX12_operand 2 = .ok (.iconst 1, 1) := by decide +kernel
theorem dX12_operand_3 : decode cX12_operand 3 = .ok (.istore_n 3, 1) := by decide +kernel
theorem dX12_operand_4 : decode cX12_operand 4 = .ok (.iload_n 3, 1) := by decide +kernel
theorem dX12_operand_5 : decode cX12_operand 5 = .ok (.ifCond .eq 115, 3) := by decide +kernel
theorem dX12_operand_8 : decode cX12_operand 8 = .ok (.aload_n 0, 1) := by decide +kernel
theorem dX12_operand_9 : decode cX12_operand 9 = .ok (.invokevirtual 176, 3) := by decide +kernel
theorem dX12_operand_12 : decode cX12_operand 12 = .ok (.ifCond .eq 108, 3) := by decide +kernel
theorem dX12_operand_15 : decode cX12_operand 15 = .ok (.iconst 0, 1) := by decide +kernel
theorem dX12_operand_16 : decode cX12_operand 16 = .ok (.istore 4, 2) := by decide +kernel
theorem dX12_operand_18 : decode cX12_operand 18 = .ok (.aload_n 0, 1) := by decide +kernel
theorem dX12_operand_19 : decode cX12_operand 19 = .ok (.invokevirtual 176, 3) := by decide +kernel
theorem dX12_operand_22 : decode cX12_operand 22 = .ok (.ifCond .eq 53, 3) := by decide +kernel
theorem dX12_operand_25 : decode cX12_operand 25 = .ok (.iload_n 2, 1) := by decide +kernel
theorem dX12_operand_26 : decode cX12_operand 26 = .ok (.ifCond .eq 49, 3) := by decide +kernel
theorem dX12_operand_29 : decode cX12_operand 29 = .ok (.aload_n 0, 1) := by decide +kernel
theorem dX12_operand_30 : decode cX12_operand 30 = .ok (.invokevirtual 204, 3) := by decide +kernel
theorem dX12_operand_33 : decode cX12_operand 33 = .ok (.bipush 14, 2) := by decide +kernel
theorem dX12_operand_35 : decode cX12_operand 35 = .ok (.if_icmp .ne 40, 3) := by decide +kernel
theorem dX12_operand_38 : decode cX12_operand 38 = .ok (.iload 4, 2) := by decide +kernel
theorem dX12_operand_40 : decode cX12_operand 40 = .ok (.bipush 6, 2) := by decide +kernel
theorem dX12_operand_42 : decode cX12_operand 42 = .ok (.if_icmp .ne 8, 3) := by decide +kernel
theorem dX12_operand_45 : decode cX12_operand 45 = .ok (.aload_n 0, 1) := by decide +kernel
theorem dX12_operand_46 : decode cX12_operand 46 = .ok (.iconst 2, 1) := by decide +kernel
theorem dX12_operand_47 : decode cX12_operand 47 = .ok (.invokevirtual 183, 3) := by decide +kernel
theorem dX12_operand_50 : decode cX12_operand 50 = .ok (.iinc 4 1, 3) := by decide +kernel
theorem dX12_operand_53 : decode cX12_operand 53 = .ok (.aload_n 0, 1) := by decide +kernel
theorem dX12_operand_54 : decode cX12_operand 54 = .ok (.invokevirtual 176, 3) := by decide +kernel
theorem dX12_operand_57 : decode cX12_operand 57 = .ok (.ifCond .ne 6, 3) := by decide +kernel
theorem dX12_operand_60 : decode cX12_operand 60 = .ok (.goto (-42), 3) := by decide +kernel
theorem dX12_operand_63 : decode cX12_operand 63 = .ok (.aload_n 0, 1) := by decide +kernel
theorem dX12_operand_64 : decode cX12_operand 64 = .ok (.iconst 3, 1) := by decide +kernel
theorem dX12_operand_65 : decode cX12_operand 65 = .ok (.invokevirtual 214, 3) := by decide +kernel
theorem dX12_operand_68 : decode cX12_operand 68 = .ok (.aload_n 0, 1) := by decide +kernel
theorem dX12_operand_69 : decode cX12_operand 69 = .ok (.invokevirtual 180, 3) := by decide +kernel
theorem dX12_operand_72 : decode cX12_operand 72 = .ok (.goto (-54), 3) := by decide +kernel
theorem dX12_operand_75 : decode cX12_operand 75 = .ok (.aload_n 0, 1) := by decide +kernel
theorem dX12_operand_76 : decode cX12_operand 76 = .ok (.invokevirtual 176, 3) := by decide +kernel
theorem dX12_operand_79 : decode cX12_operand 79 = .ok (.ifCond .eq 16, 3) := by decide +kernel
theorem dX12_operand_82 : decode cX12_operand 82 = .ok (.aload_n 0, 1) := by decide +kernel
theorem dX12_operand_83 : decode cX12_operand 83 = .ok (.bipush 40, 2) := by decide +kernel
theorem dX12_operand_85 : decode cX12_operand 85 = .ok (.invokevirtual 211, 3) := by decide +kernel
theorem dX12_operand_88 : decode cX12_operand 88 = .ok (.ifCond .eq 7, 3) := by decide +kernel
theorem dX12_operand_91 : decode cX12_operand 91 = .ok (.iconst 1, 1) := by decide +kernel
theorem dX12_operand_92 : decode cX12_operand 92 = .ok (.goto 4, 3) := by decide +kernel
theorem dX12_operand_95 : decode cX12_operand 95 = .ok (.iconst 0, 1) := by decide +kernel
theorem dX12_operand_96 : decode cX12_operand 96 = .ok (.istore_n 3, 1) := by decide +kernel
theorem dX12_operand_97 : decode cX12_operand 97 = .ok (.iload_n 3, 1) := by decide +kernel
theorem dX12_operand_98 : decode cX12_operand 98 = .ok (.ifCond .eq 19, 3) := by decide +kernel
theorem dX12_operand_101 : decode cX12_operand 101 = .ok (.aload_n 0, 1) := by decide +kernel
theorem dX12_operand_102 : decode cX12_operand 102 = .ok (.bipush 14, 2) := by decide +kernel
theorem dX12_operand_104 : decode cX12_operand 104 = .ok (.invokevirtual 214, 3) := by decide +kernel
theorem dX12_operand_107 : decode cX12_operand 107 = .ok (.aload_n 0, 1) := by decide +kernel
theorem dX12_operand_108 : decode cX12_operand 108 = .ok (.invokevirtual 180, 3) := by decide +kernel
theorem dX12_operand_111 : decode cX12_operand 111 = .ok (.aload_n 0, 1) := by decide +kernel
theorem dX12_operand_112 : decode cX12_operand 112 = .ok (.invokevirtual 217, 3) := by decide +kernel
theorem dX12_operand_115 : decode cX12_operand 115 = .ok (.iconst 1, 1) := by decide +kernel
theorem dX12_operand_116 : decode cX12_operand 116 = .ok (.istore_n 2, 1) := by decide +kernel
theorem dX12_operand_117 : decode cX12_operand 117 = .ok (.goto (-113), 3) := by decide +kernel
theorem dX12_operand_120 : decode cX12_operand 120 = .ok (.aload_n 0, 1) := by decide +kernel
theorem dX12_operand_121 : decode cX12_operand 121 = .ok (.invokevirtual 220, 3) := by decide +kernel
theorem dX12_operand_124 : decode cX12_operand 124 = .ok (.return_, 1) := by decide +kernel
theorem dX12_isOpened_0 : decode cX12_isOpened 0 = .ok (.aload_n 0, 1) := by decide +kernel
theorem dX12_isOpened_1 : decode cX12_isOpened 1 = .ok (.getfield 192, 3) := by decide +kernel
theorem dX12_isOpened_4 : decode cX12_isOpened 4 = .ok (.iconst 1, 1) := by decide +kernel
theorem dX12_isOpened_5 : decode cX12_isOpened 5 = .ok (.isub, 1) := by decide +kernel
theorem dX12_isOpened_6 : decode cX12_isOpened 6 = .ok (.istore_n 1, 1) := by decide +kernel
theorem dX12_isOpened_7 : decode cX12_isOpened 7 = .ok (.iload_n 1, 1) := by decide +kernel
theorem dX12_isOpened_8 : decode cX12_isOpened 8 = .ok (.ifCond .lt 21, 3) := by decide +kernel
theorem dX12_isOpened_11 : decode cX12_isOpened 11 = .ok (.aload_n 0, 1) := by decide +kernel
theorem dX12_isOpened_12 : decode cX12_isOpened 12 = .ok (.getfield 68, 3) := by decide +kernel
theorem dX12_isOpened_15 : decode cX12_isOpened 15 = .ok (.iload_n 1, 1) := by decide +kernel
theorem dX12_isOpened_16 : decode cX12_isOpened 16 = .ok (.iaload, 1) := by decide +kernel
theorem dX12_isOpened_17 : decode cX12_isOpened 17 = .ok (.invokestatic 195, 3) := by decide +kernel
theorem dX12_isOpened_20 : decode cX12_isOpened 20 = .ok (.ifCond .ne 9, 3) := by decide +kernel
theorem dX12_isOpened_23 : decode cX12_isOpened 23 = .ok (.iinc 1 (-1), 3) := by decide +kernel
theorem dX12_isOpened_26 : decode cX12_isOpened 26 = .ok (.goto (-19), 3) := by decide +kernel
theorem dX12_isOpened_29 : decode cX12_isOpened 29 = .ok (.iload_n 1, 1) := by decide +kernel
theorem dX12_isOpened_30 : decode cX12_isOpened 30 = .ok (.ifCond .lt 7, 3) := by decide +kernel
theorem dX12_isOpened_33 : decode cX12_isOpened 33 = .ok (.iconst 1, 1) := by decide +kernel
theorem dX12_isOpened_34 : decode cX12_isOpened 34 = .ok (.goto 4, 3) := by decide +kernel
theorem dX12_isOpened_37 : decode cX12_isOpened 37 = .ok (.iconst 0, 1) := by decide +kernel
theorem dX12_isOpened_38 : decode cX12_isOpened 38 = .ok (.ireturn, 1) := by decide +kernel
theorem dX12_closes_0 : decode cX12_closes 0 = .ok (.aload_n 0, 1) := by decide +kernel
theorem dX12_closes_1 : decode cX12_closes 1 = .ok (.iconst 0, 1) := by decide +kernel
theorem dX12_closes_2 : decode cX12_closes 2 = .ok (.invokevirtual 223, 3) := by decide +kernel
theorem dX12_closes_5 : decode cX12_closes 5 = .ok (.aload_n 0, 1) := by decide +kernel
theorem dX12_closes_6 : decode cX12_closes 6 = .ok (.dup, 1) := by decide +kernel
theorem dX12_closes_7 : decode cX12_closes 7 = .ok (.getfield 192, 3) := by decide +kernel
theorem dX12_closes_10 : decode cX12_closes 10 = .ok (.iconst 1, 1) := by decide +kernel
theorem dX12_closes_11 : decode cX12_closes 11 = .ok (.isub, 1) := by decide +kernel
theorem dX12_closes_12 : decode cX12_closes 12 = .ok (.putfield 192, 3) := by decide +kernel
theorem dX12_closes_15 : decode cX12_closes 15 = .ok (.aload_n 0, 1) := by decide +kernel
theorem dX12_closes_16 : decode cX12_closes 16 = .ok (.dup, 1) := by decide +kernel
theorem dX12_closes_17 : decode cX12_closes 17 = .ok (.getfield 208, 3) := by decide +kernel
theorem dX12_closes_20 : decode cX12_closes 20 = .ok (.iconst 1, 1) := by decide +kernel
theorem dX12_closes_21 : decode cX12_closes 21 = .ok (.isub, 1) := by decide +kernel
theorem dX12_closes_22 : decode cX12_closes 22 = .ok (.putfield 208, 3) := by decide +kernel
theorem dX12_closes_25 : decode cX12_closes 25 = .ok (.aload_n 0, 1) := by decide +kernel
theorem dX12_closes_26 : decode cX12_closes 26 = .ok (.invokevirtual 180, 3) := by decide +kernel
theorem dX12_closes_29 : decode cX12_closes 29 = .ok (.return_, 1) := by decide +kernel
theorem dX12_expression_0 : decode cX12_expression 0 = .ok (.aload_n 0, 1) := by decide +kernel
theorem dX12_expression_1 : decode cX12_expression 1 = .ok (.invokevirtual 176, 3) := by decide +kernel
theorem dX12_expression_4 : decode cX12_expression 4 = .ok (.ifCond .ne 4, 3) := by decide +kernel
theorem dX12_expression_7 : decode cX12_expression 7 = .ok (.return_, 1) := by decide +kernel
theorem dX12_expression_8 : decode cX12_expression 8 = .ok (.aload_n 0, 1) := by decide +kernel
theorem dX12_expression_9 : decode cX12_expression 9 = .ok (.iconst 0, 1) := by decide +kernel
theorem dX12_expression_10 : decode cX12_expression 10 = .ok (.putfield 192, 3) := by decide +kernel
theorem dX12_expression_13 : decode cX12_expression 13 = .ok (.aload_n 0, 1) := by decide +kernel
theorem dX12_expression_14 : decode cX12_expression 14 = .ok (.iconst 0, 1) := by decide +kernel
theorem dX12_expression_15 : decode cX12_expression 15 = .ok (.putfield 208, 3) := by decide +kernel
theorem dX12_expression_18 : decode cX12_expression 18 = .ok (.aload_n 0, 1) := by decide +kernel
theorem dX12_expression_19 : decode cX12_expression 19 = .ok (.invokevirtual 217, 3) := by decide +kernel
theorem dX12_expression_22 : decode cX12_expression 22 = .ok (.aload_n 0, 1) := by decide +kernel
theorem dX12_expression_23 : decode cX12_expression 23 = .ok (.iconst 1, 1) := by decide +kernel
theorem dX12_expression_24 : decode cX12_expression 24 = .ok (.invokevirtual 226, 3) := by decide +kernel
theorem dX12_expression_27 : decode cX12_expression 27 = .ok (.iconst 1, 1) := by decide +kernel
theorem dX12_expression_28 : decode cX12_expression 28 = .ok (.istore_n 1, 1) := by decide +kernel
theorem dX12_expression_29 : decode cX12_expression 29 = .ok (.iload_n 1, 1) := by decide +kernel
theorem dX12_expression_30 : decode cX12_expression 30 = .ok (.ifCond .eq 295, 3) := by decide +kernel
theorem dX12_expression_33 : decode cX12_expression 33 = .ok (.aload_n 0, 1) := by decide +kernel
theorem dX12_expression_34 : decode cX12_expression 34 = .ok (.invokevirtual 176, 3) := by decide +kernel
theorem dX12_expression_37 : decode cX12_expression 37 = .ok (.ifCond .eq 288, 3) := by decide +kernel
theorem dX12_expression_40 : decode cX12_expression 40 = .ok (.aload_n 0, 1) := by decide +kernel
theorem dX12_expression_41 : decode cX12_expression 41 = .ok (.invokevirtual 204, 3) := by decide +kernel
theorem dX12_expression_44 : decode cX12_expression 44 = .ok (.istore_n 2, 1) := by decide +kernel
theorem dX12_expression_45 : decode cX12_expression 45 = .ok (.iload_n 2, 1) := by decide +kernel
theorem dX12_expression_46 : decode cX12_expression 46 = .ok (.bipush 12, 2) := by decide +kernel
theorem dX12_expression_48 : decode cX12_expression 48 = .ok (.if_icmp .eq 9, 3) := by decide +kernel
theorem dX12_expression_51 : decode cX12_expression 51 = .ok (.iload_n 2, 1) := by decide +kernel
theorem dX12_expression_52 : decode cX12_expression 52 = .ok (.bipush 13, 2) := by decide +kernel
theorem dX12_expression_54 : decode cX12_expression 54 = .ok (.if_icmp .ne 55, 3) := by decide +kernel
theorem dX12_expression_57 : decode cX12_expression 57 = .ok (.aload_n 0, 1) := by decide +kernel
theorem dX12_expression_58 : decode cX12_expression 58 = .ok (.iload_n 2, 1) := by decide +kernel
theorem dX12_expression_59 : decode cX12_expression 59 = .ok (.bipush 12, 2) := by decide +kernel
theorem dX12_expression_61 : decode cX12_expression 61 = .ok (.if_icmp .ne 7, 3) := by decide +kernel
theorem dX12_expression_64 : decode cX12_expression 64 = .ok (.iconst 2, 1) := by decide +kernel
theorem dX12_expression_65 : decode cX12_expression 65 = .ok (.goto 4, 3) := by decide +kernel
theorem dX12_expression_68 : decode cX12_expression 68 = .ok (.iconst 1, 1) := by decide +kernel
theorem dX12_expression_69 : decode cX12_expression 69 = .ok (.invokevirtual 223, 3) := by decide +kernel
theorem dX12_expression_72 : decode cX12_expression 72 = .ok (.aload_n 0, 1) := by decide +kernel
theorem dX12_expression_73 : decode cX12_expression 73 = .ok (.iload_n 2, 1) := by decide +kernel
theorem dX12_expression_74 : decode cX12_expression 74 = .ok (.bipush 12, 2) := by decide +kernel
theorem dX12_expression_76 : decode cX12_expression 76 = .ok (.if_icmp .ne 7, 3) := by decide +kernel
theorem dX12_expression_79 : decode cX12_expression 79 = .ok (.iconst 4, 1) := by decide +kernel
theorem dX12_expression_80 : decode cX12_expression 80 = .ok (.goto 4, 3) := by decide +kernel
theorem dX12_expression_83 : decode cX12_expression 83 = .ok (.iconst 5, 1) := by decide +kernel
theorem dX12_expression_84 : decode cX12_expression 84 = .ok (.invokevirtual 214, 3) := by decide +kernel
theorem dX12_expression_87 : decode cX12_expression 87 = .ok (.aload_n 0, 1) := by decide +kernel
theorem dX12_expression_88 : decode cX12_expression 88 = .ok (.getfield 71, 3) := by decide +kernel
theorem dX12_expression_91 : decode cX12_expression 91 = .ok (.aload_n 0, 1) := by decide +kernel
theorem dX12_expression_92 : decode cX12_expression 92 = .ok (.getfield 208, 3) := by decide +kernel
theorem dX12_expression_95 : decode cX12_expression 95 = .ok (.iconst 0, 1) := by decide +kernel
theorem dX12_expression_96 : decode cX12_expression 96 = .ok (.bastore, 1) := by decide +kernel
theorem dX12_expression_97 : decode cX12_expression 97 = .ok (.aload_n 0, 1) := by decide +kernel
theorem dX12_expression_98 : decode cX12_expression 98 = .ok (.invokevirtual 180, 3) := by decide +kernel
theorem dX12_expression_101 : decode cX12_expression 101 = .ok (.aload_n 0, 1) := by decide +kernel
theorem dX12_expression_102 : decode cX12_expression 102 = .ok (.iconst 1, 1) := by decide +kernel
theorem dX12_expression_103 : decode cX12_expression 103 = .ok (.invokevirtual 226, 3) := by decide +kernel
theorem dX12_expression_106 : decode cX12_expression 106 = .ok (.goto 216, 3) := by decide +kernel
theorem dX12_expression_109 : decode cX12_expression 109 = .ok (.aload_n 0, 1) := by decide +kernel
theorem dX12_expression_110 : decode cX12_expression 110 = .ok (.bipush 60, 2) := by decide +kernel
theorem dX12_expression_112 : decode cX12_expression 112 = .ok (.invokevirtual 211, 3) := by decide +kernel
theorem dX12_expression_115 : decode cX12_expression 115 = .ok (.ifCond .ne 12, 3) := by decide +kernel
theorem dX12_expression_118 : decode cX12_expression 118 = .ok (.aload_n 0, 1) := by decide +kernel
theorem dX12_expression_119 : decode cX12_expression 119 = .ok (.bipush 61, 2) := by decide +kernel
theorem dX12_expression_121 : decode cX12_expression 121 = .ok (.invokevirtual 211, 3) := by decide +kernel
theorem dX12_expression_124 : decode cX12_expression 124 = .ok (.ifCond .eq 62, 3) := by decide +kernel
theorem dX12_expression_127 : decode cX12_expression 127 = .ok (.aload_n 0, 1) := by decide +kernel
theorem dX12_expression_128 : decode cX12_expression 128 = .ok (.getfield 71, 3) := by decide +kernel
theorem dX12_expression_131 : decode cX12_expression 131 = .ok (.aload_n 0, 1) := by decide +kernel
theorem dX12_expression_132 : decode cX12_expression 132 = .ok (.getfield 208, 3) := by decide +kernel
theorem dX12_expression_135 : decode cX12_expression 135 = .ok (.baload, 1) := by decide +kernel
theorem dX12_expression_136 : decode cX12_expression 136 = .ok (.ifCond .ne 50, 3) := by decide +kernel
theorem dX12_expression_139 : decode cX12_expression 139 = .ok (.aload_n 0, 1) := by decide +kernel
theorem dX12_expression_140 : decode cX12_expression 140 = .ok (.iconst 4, 1) := by decide +kernel
theorem dX12_expression_141 : decode cX12_expression 141 = .ok (.invokevirtual 223, 3) := by decide +kernel
theorem dX12_expression_144 : decode cX12_expression 144 = .ok (.aload_n 0, 1) := by decide +kernel
theorem dX12_expression_145 : decode cX12_expression 145 = .ok (.aload_n 0, 1) := by decide +kernel
theorem dX12_expression_146 : decode cX12_expression 146 = .ok (.bipush 60, 2) := by decide +kernel
theorem dX12_expression_148 : decode cX12_expression 148 = .ok (.invokevirtual 211, 3) := by decide +kernel
theorem dX12_expression_151 : decode cX12_expression 151 = .ok (.ifCond .eq 8, 3) := by decide +kernel
theorem dX12_expression_154 : decode cX12_expression 154 = .ok (.bipush 6, 2) := by decide +kernel
theorem dX12_expression_156 : decode cX12_expression 156 = .ok (.goto 5, 3) := by decide +kernel
theorem dX12_expression_159 : decode cX12_expression 159 = .ok (.bipush 7, 2) := by decide +kernel
theorem dX12_expression_161 : decode cX12_expression 161 = .ok (.invokevirtual 214, 3) := by decide +kernel
theorem dX12_expression_164 : decode cX12_expression 164 = .ok (.aload_n 0, 1) := by decide +kernel
theorem dX12_expression_165 : decode cX12_expression 165 = .ok (.getfield 71, 3) := by decide +kernel
theorem dX12_expression_168 : decode cX12_expression 168 = .ok (.aload_n 0, 1) := by decide +kernel
theorem dX12_expression_169 : decode cX12_expression 169 = .ok (.getfield 208, 3) := by decide +kernel
theorem dX12_expression_172 : decode cX12_expression 172 = .ok (.iconst 1, 1) := by decide +kernel
theorem dX12_expression_173 : decode cX12_expression 173 = .ok (.bastore, 1) := by decide +kernel
theorem dX12_expression_174 : decode cX12_expression 174 = .ok (.aload_n 0, 1) := by decide +kernel
theorem dX12_expression_175 : decode cX12_expression 175 = .ok (.invokevirtual 180, 3) := by decide +kernel
theorem dX12_expression_178 : decode cX12_expression 178 = .ok (.aload_n 0, 1) := by decide +kernel
theorem dX12_expression_179 : decode cX12_expression 179 = .ok (.iconst 0, 1) := by decide +kernel
theorem dX12_expression_180 : decode cX12_expression 180 = .ok (.invokevirtual 226, 3) := by decide +kernel
theorem dX12_expression_183 : decode cX12_expression 183 = .ok (.goto 139, 3) := by decide +kernel
theorem dX12_expression_186 : decode cX12_expression 186 = .ok (.aload_n 0, 1) := by decide +kernel
theorem dX12_expression_187 : decode cX12_expression 187 = .ok (.bipush 43, 2) := by decide +kernel
theorem dX12_expression_189 : decode cX12_expression 189 = .ok (.invokevirtual 211, 3) := by decide +kernel
theorem dX12_expression_192 : decode cX12_expression 192 = .ok (.ifCond .ne 12, 3) := by decide +kernel
theorem dX12_expression_195 : decode cX12_expression 195 = .ok (.aload_n 0, 1) := by decide +kernel
theorem dX12_expression_196 : decode cX12_expression 196 = .ok (.bipush 45, 2) := by decide +kernel
theorem dX12_expression_198 : decode cX12_expression 198 = .ok (.invokevirtual 211, 3) := by decide +kernel
theorem dX12_expression_201 : decode cX12_expression 201 = .ok (.ifCond .eq 40, 3) := by decide +kernel
theorem dX12_expression_204 : decode cX12_expression 204 = .ok (.aload_n 0, 1) := by decide +kernel
theorem dX12_expression_205 : decode cX12_expression 205 = .ok (.iconst 5, 1) := by decide +kernel
theorem dX12_expression_206 : decode cX12_expression 206 = .ok (.invokevirtual 223, 3) := by decide +kernel
theorem dX12_expression_209 : decode cX12_expression 209 = .ok (.aload_n 0, 1) := by decide +kernel
theorem dX12_expression_210 : decode cX12_expression 210 = .ok (.aload_n 0, 1) := by decide +kernel
theorem dX12_expression_211 : decode cX12_expression 211 = .ok (.bipush 43, 2) := by decide +kernel
theorem dX12_expression_213 : decode cX12_expression 213 = .ok (.invokevirtual 211, 3) := by decide +kernel
theorem dX12_expression_216 : decode cX12_expression 216 = .ok (.ifCond .eq 8, 3) := by decide +kernel
theorem dX12_expression_219 : decode cX12_expression 219 = .ok (.bipush 8, 2) := by decide +kernel
theorem dX12_expression_221 : decode cX12_expression 221 = .ok (.goto 5, 3) := by decide +kernel
theorem dX12_expression_224 : decode cX12_expression 224 = .ok (.bipush 9, 2) := by decide +kernel
theorem dX12_expression_226 : decode cX12_expression 226 = .ok (.invokevirtual 214, 3) := by decide +kernel
theorem dX12_expression_229 : decode cX12_expression 229 = .ok (.aload_n 0, 1) := by decide +kernel
theorem dX12_expression_230 : decode cX12_expression 230 = .ok (.invokevirtual 180, 3) := by decide +kernel
theorem dX12_expression_233 : decode cX12_expression 233 = .ok (.aload_n 0, 1) := by decide +kernel
theorem dX12_expression_234 : decode cX12_expression 234 = .ok (.iconst 0, 1) := by decide +kernel
theorem dX12_expression_235 : decode cX12_expression 235 = .ok (.invokevirtual 226, 3) := by decide +kernel
theorem dX12_expression_238 : decode cX12_expression 238 = .ok (.goto 84, 3) := by decide +kernel
theorem dX12_expression_241 : decode cX12_expression 241 = .ok (.aload_n 0, 1) := by decide +kernel
theorem dX12_expression_242 : decode cX12_expression 242 = .ok (.bipush 42, 2) := by decide +kernel
theorem dX12_expression_244 : decode cX12_expression 244 = .ok (.invokevirtual 211, 3) := by decide +kernel
theorem dX12_expression_247 : decode cX12_expression 247 = .ok (.ifCond .ne 12, 3) := by decide +kernel
theorem dX12_expression_250 : decode cX12_expression 250 = .ok (.aload_n 0, 1) := by decide +kernel
theorem dX12_expression_251 : decode cX12_expression 251 = .ok (.bipush 47, 2) := by decide +kernel
theorem dX12_expression_253 : decode cX12_expression 253 = .ok (.invokevirtual 211, 3) := by decide +kernel
theorem dX12_expression_256 : decode cX12_expression 256 = .ok (.ifCond .eq 41, 3) := by decide +kernel
theorem dX12_expression_259 : decode cX12_expression 259 = .ok (.aload_n 0, 1) := by decide +kernel
theorem dX12_expression_260 : decode cX12_expression 260 = .ok (.bipush 6, 2) := by decide +kernel
theorem dX12_expression_262 : decode cX12_expression 262 = .ok (.invokevirtual 223, 3) := by decide +kernel
theorem dX12_expression_265 : decode cX12_expression 265 = .ok (.aload_n 0, 1) := by decide +kernel
theorem dX12_expression_266 : decode cX12_expression 266 = .ok (.aload_n 0, 1) := by decide +kernel
theorem dX12_expression_267 : decode cX12_expression 267 = .ok (.bipush 42, 2) := by decide +kernel
theorem dX12_expression_269 : decode cX12_expression 269 = .ok (.invokevirtual 211, 3) := by decide +kernel
theorem dX12_expression_272 : decode cX12_expression 272 = .ok (.ifCond .eq 8, 3) := by decide +kernel
theorem dX12_expression_275 : decode cX12_expression 275 = .ok (.bipush 10, 2) := by decide +kernel
theorem dX12_expression_277 : decode cX12_expression 277 = .ok (.goto 5, 3) := by decide +kernel
theorem dX12_expression_280 : decode cX12_expression 280 = .ok (.bipush 11, 2) := by decide +kernel
theorem dX12_expression_282 : decode cX12_expression 282 = .ok (.invokevirtual 214, 3) := by decide +kernel
theorem dX12_expression_285 : decode cX12_expression 285 = .ok (.aload_n 0, 1) := by decide +kernel
theorem dX12_expression_286 : decode cX12_expression 286 = .ok (.invokevirtual 180, 3) := by decide +kernel
theorem dX12_expression_289 : decode cX12_expression 289 = .ok (.aload_n 0, 1) := by decide +kernel
theorem dX12_expression_290 : decode cX12_expression 290 = .ok (.iconst 0, 1) := by decide +kernel
theorem dX12_expression_291 : decode cX12_expression 291 = .ok (.invokevirtual 226, 3) := by decide +kernel
theorem dX12_expression_294 : decode cX12_expression 294 = .ok (.goto 28, 3) := by decide +kernel
theorem dX12_expression_297 : decode cX12_expression 297 = .ok (.aload_n 0, 1) := by decide +kernel
theorem dX12_expression_298 : decode cX12_expression 298 = .ok (.bipush 41, 2) := by decide +kernel
theorem dX12_expression_300 : decode cX12_expression 300 = .ok (.invokevirtual 211, 3) := by decide +kernel
theorem dX12_expression_303 : decode cX12_expression 303 = .ok (.ifCond .eq 17, 3) := by decide +kernel
theorem dX12_expression_306 : decode cX12_expression 306 = .ok (.aload_n 0, 1) := by decide +kernel
theorem dX12_expression_307 : decode cX12_expression 307 = .ok (.invokevirtual 230, 3) := by decide +kernel
theorem dX12_expression_310 : decode cX12_expression 310 = .ok (.ifCond .eq 10, 3) := by decide +kernel
theorem dX12_expression_313 : decode cX12_expression 313 = .ok (.aload_n 0, 1) := by decide +kernel
theorem dX12_expression_314 : decode cX12_expression 314 = .ok (.invokevirtual 233, 3) := by decide +kernel
theorem dX12_expression_317 : decode cX12_expression 317 = .ok (.goto 5, 3) := by decide +kernel
theorem dX12_expression_320 : decode cX12_expression 320 = .ok (.iconst 0, 1) := by decide +kernel
theorem dX12_expression_321 : decode cX12_expression 321 = .ok (.istore_n 1, 1) := by decide +kernel
theorem dX12_expression_322 : decode cX12_expression 322 = .ok (.goto (-293), 3) := by decide +kernel
theorem dX12_expression_325 : decode cX12_expression 325 = .ok (.aload_n 0, 1) := by decide +kernel
theorem dX12_expression_326 : decode cX12_expression 326 = .ok (.invokevirtual 176, 3) := by decide +kernel
theorem dX12_expression_329 : decode cX12_expression 329 = .ok (.ifCond .eq 16, 3) := by decide +kernel
theorem dX12_expression_332 : decode cX12_expression 332 = .ok (.aload_n 0, 1) := by decide +kernel
theorem dX12_expression_333 : decode cX12_expression 333 = .ok (.getfield 208, 3) := by decide +kernel
theorem dX12_expression_336 : decode cX12_expression 336 = .ok (.iconst 1, 1) := by decide +kernel
theorem dX12_expression_337 : decode cX12_expression 337 = .ok (.if_icmp .le 8, 3) := by decide +kernel
theorem dX12_expression_340 : decode cX12_expression 340 = .ok (.aload_n 0, 1) := by decide +kernel
theorem dX12_expression_341 : decode cX12_expression 341 = .ok (.iconst 1, 1) := by decide +kernel
theorem dX12_expression_342 : decode cX12_expression 342 = .ok (.invokevirtual 183, 3) := by decide +kernel
theorem dX12_expression_345 : decode cX12_expression 345 = .ok (.aload_n 0, 1) := by decide +kernel
theorem dX12_expression_346 : decode cX12_expression 346 = .ok (.iconst 0, 1) := by decide +kernel
theorem dX12_expression_347 : decode cX12_expression 347 = .ok (.invokevirtual 223, 3) := by decide +kernel
theorem dX12_expression_350 : decode cX12_expression 350 = .ok (.aload_n 0, 1) := by decide +kernel
theorem dX12_expression_351 : decode cX12_expression 351 = .ok (.iconst 0, 1) := by decide +kernel
theorem dX12_expression_352 : decode cX12_expression 352 = .ok (.invokevirtual 201, 3) := by decide +kernel
theorem dX12_expression_355 : decode cX12_expression 355 = .ok (.return_, 1) := by decide +kernel
theorem dX12_readsTown_0 : decode cX12_readsTown 0 = .ok (.aload_n 0, 1) := by decide +kernel
theorem dX12_readsTown_1 : decode cX12_readsTown 1 = .ok (.getfield 236, 3) := by decide +kernel
theorem dX12_readsTown_4 : decode cX12_readsTown 4 = .ok (.bipush 8, 2) := by decide +kernel
theorem dX12_readsTown_6 : decode cX12_readsTown 6 = .ok (.if_icmp .ne 8, 3) := by decide +kernel
theorem dX12_readsTown_9 : decode cX12_readsTown 9 = .ok (.aload_n 0, 1) := by decide +kernel
theorem dX12_readsTown_10 : decode cX12_readsTown 10 = .ok (.iconst 2, 1) := by decide +kernel
theorem dX12_readsTown_11 : decode cX12_readsTown 11 = .ok (.invokevirtual 183, 3) := by decide +kernel
theorem dX12_readsTown_14 : decode cX12_readsTown 14 = .ok (.aload_n 0, 1) := by decide +kernel
theorem dX12_readsTown_15 : decode cX12_readsTown 15 = .ok (.invokevirtual 176, 3) := by decide +kernel
theorem dX12_readsTown_18 : decode cX12_readsTown 18 = .ok (.ifCond .ne 4, 3) := by decide +kernel
theorem dX12_readsTown_21 : decode cX12_readsTown 21 = .ok (.return_, 1) := by decide +kernel
theorem dX12_readsTown_22 : decode cX12_readsTown 22 = .ok (.aload_n 0, 1) := by decide +kernel
theorem dX12_readsTown_23 : decode cX12_readsTown 23 = .ok (.invokevirtual 180, 3) := by decide +kernel
theorem dX12_readsTown_26 : decode cX12_readsTown 26 = .ok (.aload_n 0, 1) := by decide +kernel
theorem dX12_readsTown_27 : decode cX12_readsTown 27 = .ok (.getfield 236, 3) := by decide +kernel
theorem dX12_readsTown_30 : decode cX12_readsTown 30 = .ok (.istore_n 1, 1) := by decide +kernel
theorem dX12_readsTown_31 : decode cX12_readsTown 31 = .ok (.aload_n 0, 1) := by decide +kernel
theorem dX12_readsTown_32 : decode cX12_readsTown 32 = .ok (.getfield 62, 3) := by decide +kernel
theorem dX12_readsTown_35 : decode cX12_readsTown 35 = .ok (.iconst 1, 1) := by decide +kernel
theorem dX12_readsTown_36 : decode cX12_readsTown 36 = .ok (.iload_n 1, 1) := by decide +kernel
theorem dX12_readsTown_37 : decode cX12_readsTown 37 = .ok (.iadd, 1) := by decide +kernel
theorem dX12_readsTown_38 : decode cX12_readsTown 38 = .ok (.aload_n 0, 1) := by decide +kernel
theorem dX12_readsTown_39 : decode cX12_readsTown 39 = .ok (.iconst 0, 1) := by decide +kernel
theorem dX12_readsTown_40 : decode cX12_readsTown 40 = .ok (.sipush 999, 3) := by decide +kernel
theorem dX12_readsTown_43 : decode cX12_readsTown 43 = .ok (.invokevirtual 239, 3) := by decide +kernel
theorem dX12_readsTown_46 : decode cX12_readsTown 46 = .ok (.iastore, 1) := by decide +kernel
theorem dX12_readsTown_47 : decode cX12_readsTown 47 = .ok (.aload_n 0, 1) := by decide +kernel
theorem dX12_readsTown_48 : decode cX12_readsTown 48 = .ok (.getfield 62, 3) := by decide +kernel
theorem dX12_readsTown_51 : decode cX12_readsTown 51 = .ok (.bipush 9, 2) := by decide +kernel
theorem dX12_readsTown_53 : decode cX12_readsTown 53 = .ok (.iload_n 1, 1) := by decide +kernel
theorem dX12_readsTown_54 : decode cX12_readsTown 54 = .ok (.iadd, 1) := by decide +kernel
theorem dX12_readsTown_55 : decode cX12_readsTown 55 = .ok (.aload_n 0, 1) := by decide +kernel
theorem dX12_readsTown_56 : decode cX12_readsTown 56 = .ok (.iconst 0, 1) := by decide +kernel
theorem dX12_readsTown_57 : decode cX12_readsTown 57 = .ok (.sipush 999, 3) := by decide +kernel
theorem dX12_readsTown_60 : decode cX12_readsTown 60 = .ok (.invokevirtual 239, 3) := by decide +kernel
theorem dX12_readsTown_63 : decode cX12_readsTown 63 = .ok (.iastore, 1) := by decide +kernel
theorem dX12_readsTown_64 : decode cX12_readsTown 64 = .ok (.aload_n 0, 1) := by decide +kernel
theorem dX12_readsTown_65 : decode cX12_readsTown 65 = .ok (.getfield 62, 3) := by decide +kernel
theorem dX12_readsTown_68 : decode cX12_readsTown 68 = .ok (.bipush 17, 2) := by decide +kernel
theorem dX12_readsTown_70 : decode cX12_readsTown 70 = .ok (.iload_n 1, 1) := by decide +kernel
theorem dX12_readsTown_71 : decode cX12_readsTown 71 = .ok (.iadd, 1) := by decide +kernel
theorem dX12_readsTown_72 : decode cX12_readsTown 72 = .ok (.iconst 0, 1) := by decide +kernel
theorem dX12_readsTown_73 : decode cX12_readsTown 73 = .ok (.iastore, 1) := by decide +kernel
theorem dX12_readsTown_74 : decode cX12_readsTown 74 = .ok (.aload_n 0, 1) := by decide +kernel
theorem dX12_readsTown_75 : decode cX12_readsTown 75 = .ok (.getfield 44, 3) := by decide +kernel
theorem dX12_readsTown_78 : decode cX12_readsTown 78 = .ok (.iload_n 1, 1) := by decide +kernel
theorem dX12_readsTown_79 : decode cX12_readsTown 79 = .ok (.aload_n 0, 1) := by decide +kernel
theorem dX12_readsTown_80 : decode cX12_readsTown 80 = .ok (.iconst 0, 1) := by decide +kernel
theorem dX12_readsTown_81 : decode cX12_readsTown 81 = .ok (.bipush 20, 2) := by decide +kernel
theorem dX12_readsTown_83 : decode cX12_readsTown 83 = .ok (.invokevirtual 239, 3) := by decide +kernel
theorem dX12_readsTown_86 : decode cX12_readsTown 86 = .ok (.iastore, 1) := by decide +kernel
theorem dX12_readsTown_87 : decode cX12_readsTown 87 = .ok (.aload_n 0, 1) := by decide +kernel
theorem dX12_readsTown_88 : decode cX12_readsTown 88 = .ok (.getfield 47, 3) := by decide +kernel
theorem dX12_readsTown_91 : decode cX12_readsTown 91 = .ok (.iload_n 1, 1) := by decide +kernel
theorem dX12_readsTown_92 : decode cX12_readsTown 92 = .ok (.aload_n 0, 1) := by decide +kernel
theorem dX12_readsTown_93 : decode cX12_readsTown 93 = .ok (.iconst 0, 1) := by decide +kernel
theorem dX12_readsTown_94 : decode cX12_readsTown 94 = .ok (.bipush 20, 2) := by decide +kernel
theorem dX12_readsTown_96 : decode cX12_readsTown 96 = .ok (.invokevirtual 239, 3) := by decide +kernel
theorem dX12_readsTown_99 : decode cX12_readsTown 99 = .ok (.iastore, 1) := by decide +kernel
theorem dX12_readsTown_100 : decode cX12_readsTown 100 = .ok (.aload_n 0, 1) := by decide +kernel
theorem dX12_readsTown_101 : decode cX12_readsTown 101 = .ok (.invokevirtual 176, 3) := by decide +kernel
theorem dX12_readsTown_104 : decode cX12_readsTown 104 = .ok (.ifCond .eq 13, 3) := by decide +kernel
theorem dX12_readsTown_107 : decode cX12_readsTown 107 = .ok (.aload_n 0, 1) := by decide +kernel
theorem dX12_readsTown_108 : decode cX12_readsTown 108 = .ok (.dup, 1) := by decide +kernel
theorem dX12_readsTown_109 : decode cX12_readsTown 109 = .ok (.getfield 236, 3) := by decide +kernel
theorem dX12_readsTown_112 : decode cX12_readsTown 112 = .ok (.iconst 1, 1) := by decide +kernel
theorem dX12_readsTown_113 : decode cX12_readsTown 113 = .ok (.iadd, 1) := by decide +kernel
theorem dX12_readsTown_114 : decode cX12_readsTown 114 = .ok (.putfield 236, 3) := by decide +kernel
theorem dX12_readsTown_117 : decode cX12_readsTown 117 = .ok (.return_, 1) := by decide +kernel
theorem dX12_hasWay_0 : decode cX12_hasWay 0 = .ok (.iconst 0, 1) := by decide +kernel
theorem dX12_hasWay_1 : decode cX12_hasWay 1 = .ok (.istore_n 3, 1) := by decide +kernel
theorem dX12_hasWay_2 : decode cX12_hasWay 2 = .ok (.iload_n 3, 1) := by decide +kernel
theorem dX12_hasWay_3 : decode cX12_hasWay 3 = .ok (.aload_n 0, 1) := by decide +kernel
theorem dX12_hasWay_4 : decode cX12_hasWay 4 = .ok (.getfield 243, 3) := by decide +kernel
theorem dX12_hasWay_7 : decode cX12_hasWay 7 = .ok (.if_icmp .ge 51, 3) := by decide +kernel
theorem dX12_hasWay_10 : decode cX12_hasWay 10 = .ok (.aload_n 0, 1) := by decide +kernel
theorem dX12_hasWay_11 : decode cX12_hasWay 11 = .ok (.getfield 50, 3) := by decide +kernel
theorem dX12_hasWay_14 : decode cX12_hasWay 14 = .ok (.iload_n 3, 1) := by decide +kernel
theorem dX12_hasWay_15 : decode cX12_hasWay 15 = .ok (.iaload, 1) := by decide +kernel
theorem dX12_hasWay_16 : decode cX12_hasWay 16 = .ok (.iload_n 1, 1) := by decide +kernel
theorem dX12_hasWay_17 : decode cX12_hasWay 17 = .ok (.if_icmp .ne 13, 3) := by decide +kernel
theorem dX12_hasWay_20 : decode cX12_hasWay 20 = .ok (.aload_n 0, 1) := by decide +kernel
theorem dX12_hasWay_21 : decode cX12_hasWay 21 = .ok (.getfield 53, 3) := by decide +kernel
theorem dX12_hasWay_24 : decode cX12_hasWay 24 = .ok (.iload_n 3, 1) := by decide +kernel
theorem dX12_hasWay_25 : decode cX12_hasWay 25 = .ok (.iaload, 1) := by decide +kernel
theorem dX12_hasWay_26 : decode cX12_hasWay 26 = .ok (.iload_n 2, 1) := by decide +kernel
theorem dX12_hasWay_27 : decode cX12_hasWay 27 = .ok (.if_icmp .eq 23, 3) := by decide +kernel
theorem dX12_hasWay_30 : decode cX12_hasWay 30 = .ok (.aload_n 0, 1) := by decide +kernel
theorem dX12_hasWay_31 : decode cX12_hasWay 31 = .ok (.getfield 50, 3) := by decide +kernel
theorem dX12_hasWay_34 : decode cX12_hasWay 34 = .ok (.iload_n 3, 1) := by decide +kernel
theorem dX12_hasWay_35 : decode cX12_hasWay 35 = .ok (.iaload, 1) := by decide +kernel
theorem dX12_hasWay_36 : decode cX12_hasWay 36 = .ok (.iload_n 2, 1) := by decide +kernel
theorem dX12_hasWay_37 : decode cX12_hasWay 37 = .ok (.if_icmp .ne 15, 3) := by decide +kernel
theorem dX12_hasWay_40 : decode cX12_hasWay 40 = .ok (.aload_n 0, 1) := by decide +kernel
theorem dX12_hasWay_41 : decode cX12_hasWay 41 = .ok (.getfield 53, 3) := by decide +kernel
theorem dX12_hasWay_44 : decode cX12_hasWay 44 = .ok (.iload_n 3, 1) := by decide +kernel
theorem dX12_hasWay_45 : decode cX12_hasWay 45 = .ok (.iaload, 1) := by decide +kernel
theorem dX12_hasWay_46 : decode cX12_hasWay 46 = .ok (.iload_n 1, 1) := by decide +kernel
theorem dX12_hasWay_47 : decode cX12_hasWay 47 = .ok (.if_icmp .ne 5, 3) := by decide +kernel
theorem dX12_hasWay_50 : decode cX12_hasWay 50 = .ok (.iconst 1, 1) := by decide +kernel
theorem dX12_hasWay_51 : decode cX12_hasWay 51 = .ok (.ireturn, 1) := by decide +kernel
theorem dX12_hasWay_52 : decode cX12_hasWay 52 = .ok (.iinc 3 1, 3) := by decide +kernel
theorem dX12_hasWay_55 : decode cX12_hasWay 55 = .ok (.goto (-53), 3) := by decide +kernel
theorem dX12_hasWay_58 : decode cX12_hasWay 58 = .ok (.iconst 0, 1) := by decide +kernel
theorem dX12_hasWay_59 : decode cX12_hasWay 59 = .ok (.ireturn, 1) := by decide +kernel
theorem dX12_readsWay_0 : decode cX12_readsWay 0 = .ok (.aload_n 0, 1) := by decide +kernel
theorem dX12_readsWay_1 : decode cX12_readsWay 1 = .ok (.getfield 243, 3) := by decide +kernel
theorem dX12_readsWay_4 : decode cX12_readsWay 4 = .ok (.bipush 12, 2) := by decide +kernel
theorem dX12_readsWay_6 : decode cX12_readsWay 6 = .ok (.if_icmp .ne 8, 3) := by decide +kernel
theorem dX12_readsWay_9 : decode cX12_readsWay 9 = .ok (.aload_n 0, 1) := by decide +kernel
theorem dX12_readsWay_10 : decode cX12_readsWay 10 = .ok (.iconst 2, 1) := by decide +kernel
theorem dX12_readsWay_11 : decode cX12_readsWay 11 = .ok (.invokevirtual 183, 3) := by decide +kernel
theorem dX12_readsWay_14 : decode cX12_readsWay 14 = .ok (.aload_n 0, 1) := by decide +kernel
theorem dX12_readsWay_15 : decode cX12_readsWay 15 = .ok (.invokevirtual 176, 3) := by decide +kernel
theorem dX12_readsWay_18 : decode cX12_readsWay 18 = .ok (.ifCond .ne 4, 3) := by decide +kernel
theorem dX12_readsWay_21 : decode cX12_readsWay 21 = .ok (.return_, 1) := by decide +kernel
theorem dX12_readsWay_22 : decode cX12_readsWay 22 = .ok (.aload_n 0, 1) := by decide +kernel
theorem dX12_readsWay_23 : decode cX12_readsWay 23 = .ok (.invokevirtual 180, 3) := by decide +kernel
theorem dX12_readsWay_26 : decode cX12_readsWay 26 = .ok (.aload_n 0, 1) := by decide +kernel
theorem dX12_readsWay_27 : decode cX12_readsWay 27 = .ok (.aload_n 0, 1) := by decide +kernel
theorem dX12_readsWay_28 : decode cX12_readsWay 28 = .ok (.getfield 236, 3) := by decide +kernel
theorem dX12_readsWay_31 : decode cX12_readsWay 31 = .ok (.invokevirtual 246, 3) := by decide +kernel
theorem dX12_readsWay_34 : decode cX12_readsWay 34 = .ok (.istore_n 1, 1) := by decide +kernel
theorem dX12_readsWay_35 : decode cX12_readsWay 35 = .ok (.aload_n 0, 1) := by decide +kernel
theorem dX12_readsWay_36 : decode cX12_readsWay 36 = .ok (.aload_n 0, 1) := by decide +kernel
theorem dX12_readsWay_37 : decode cX12_readsWay 37 = .ok (.getfield 236, 3) := by decide +kernel
theorem dX12_readsWay_40 : decode cX12_readsWay 40 = .ok (.invokevirtual 186, 3) := by decide +kernel
theorem dX12_readsWay_43 : decode cX12_readsWay 43 = .ok (.ifCond .ne 4, 3) := by decide +kernel
theorem dX12_readsWay_46 : decode cX12_readsWay 46 = .ok (.return_, 1) := by decide +kernel
theorem dX12_readsWay_47 : decode cX12_readsWay 47 = .ok (.aload_n 0, 1) := by decide +kernel
theorem dX12_readsWay_48 : decode cX12_readsWay 48 = .ok (.getfield 144, 3) := by decide +kernel
theorem dX12_readsWay_51 : decode cX12_readsWay 51 = .ok (.iload_n 1, 1) := by decide +kernel
theorem dX12_readsWay_52 : decode cX12_readsWay 52 = .ok (.if_icmp .eq 15, 3) := by decide +kernel
theorem dX12_readsWay_55 : decode cX12_readsWay 55 = .ok (.aload_n 0, 1) := by decide +kernel
theorem dX12_readsWay_56 : decode cX12_readsWay 56 = .ok (.iload_n 1, 1) := by decide +kernel
theorem dX12_readsWay_57 : decode cX12_readsWay 57 = .ok (.aload_n 0, 1) := by decide +kernel
theorem dX12_readsWay_58 : decode cX12_readsWay 58 = .ok (.getfield 144, 3) := by decide +kernel
theorem dX12_readsWay_61 : decode cX12_readsWay 61 = .ok (.invokevirtual 249, 3) := by decide +kernel
theorem dX12_readsWay_64 : decode cX12_readsWay 64 = .ok (.ifCond .eq 8, 3) := by decide +kernel
theorem dX12_readsWay_67 : decode cX12_readsWay 67 = .ok (.aload_n 0, 1) := by decide +kernel
theorem dX12_readsWay_68 : decode cX12_readsWay 68 = .ok (.iconst 4, 1) := by decide +kernel
theorem dX12_readsWay_69 : decode cX12_readsWay 69 = .ok (.invokevirtual 183, 3) := by decide +kernel
theorem dX12_readsWay_72 : decode cX12_readsWay 72 = .ok (.aload_n 0, 1) := by decide +kernel
theorem dX12_readsWay_73 : decode cX12_readsWay 73 = .ok (.invokevirtual 176, 3) := by decide +kernel
theorem dX12_readsWay_76 : decode cX12_readsWay 76 = .ok (.ifCond .ne 4, 3) := by decide +kernel
theorem dX12_readsWay_79 : decode cX12_readsWay 79 = .ok (.return_, 1) := by decide +kernel
theorem dX12_readsWay_80 : decode cX12_readsWay 80 = .ok (.aload_n 0, 1) := by decide +kernel
theorem dX12_readsWay_81 : decode cX12_readsWay 81 = .ok (.getfield 50, 3) := by decide +kernel
theorem dX12_readsWay_84 : decode cX12_readsWay 84 = .ok (.aload_n 0, 1) := by decide +kernel
theorem dX12_readsWay_85 : decode cX12_readsWay 85 = .ok (.getfield 243, 3) := by decide +kernel
theorem dX12_readsWay_88 : decode cX12_readsWay 88 = .ok (.iload_n 1, 1) := by decide +kernel
theorem dX12_readsWay_89 : decode cX12_readsWay 89 = .ok (.iastore, 1) := by decide +kernel
theorem dX12_readsWay_90 : decode cX12_readsWay 90 = .ok (.aload_n 0, 1) := by decide +kernel
theorem dX12_readsWay_91 : decode cX12_readsWay 91 = .ok (.getfield 53, 3) := by decide +kernel
theorem dX12_readsWay_94 : decode cX12_readsWay 94 = .ok (.aload_n 0, 1) := by decide +kernel
theorem dX12_readsWay_95 : decode cX12_readsWay 95 = .ok (.getfield 243, 3) := by decide +kernel
theorem dX12_readsWay_98 : decode cX12_readsWay 98 = .ok (.aload_n 0, 1) := by decide +kernel
theorem dX12_readsWay_99 : decode cX12_readsWay 99 = .ok (.getfield 144, 3) := by decide +kernel
theorem dX12_readsWay_102 : decode cX12_readsWay 102 = .ok (.iastore, 1) := by decide +kernel
theorem dX12_readsWay_103 : decode cX12_readsWay 103 = .ok (.aload_n 0, 1) := by decide +kernel
theorem dX12_readsWay_104 : decode cX12_readsWay 104 = .ok (.invokevirtual 180, 3) := by decide +kernel
theorem dX12_readsWay_107 : decode cX12_readsWay 107 = .ok (.aload_n 0, 1) := by decide +kernel
theorem dX12_readsWay_108 : decode cX12_readsWay 108 = .ok (.getfield 56, 3) := by decide +kernel
theorem dX12_readsWay_111 : decode cX12_readsWay 111 = .ok (.aload_n 0, 1) := by decide +kernel
theorem dX12_readsWay_112 : decode cX12_readsWay 112 = .ok (.getfield 243, 3) := by decide +kernel
theorem dX12_readsWay_115 : decode cX12_readsWay 115 = .ok (.aload_n 0, 1) := by decide +kernel
theorem dX12_readsWay_116 : decode cX12_readsWay 116 = .ok (.iconst 1, 1) := by decide +kernel
theorem dX12_readsWay_117 : decode cX12_readsWay 117 = .ok (.bipush 9, 2) := by decide +kernel
theorem dX12_readsWay_119 : decode cX12_readsWay 119 = .ok (.invokevirtual 239, 3) := by decide +kernel
theorem dX12_readsWay_122 : decode cX12_readsWay 122 = .ok (.iastore, 1) := by decide +kernel
theorem dX12_readsWay_123 : decode cX12_readsWay 123 = .ok (.aload_n 0, 1) := by decide +kernel
theorem dX12_readsWay_124 : decode cX12_readsWay 124 = .ok (.getfield 59, 3) := by decide +kernel
theorem dX12_readsWay_127 : decode cX12_readsWay 127 = .ok (.aload_n 0, 1) := by decide +kernel
theorem dX12_readsWay_128 : decode cX12_readsWay 128 = .ok (.getfield 243, 3) := by decide +kernel
theorem dX12_readsWay_131 : decode cX12_readsWay 131 = .ok (.aload_n 0, 1) := by decide +kernel
theorem dX12_readsWay_132 : decode cX12_readsWay 132 = .ok (.iconst 0, 1) := by decide +kernel
theorem dX12_readsWay_133 : decode cX12_readsWay 133 = .ok (.bipush 9, 2) := by decide +kernel
theorem dX12_readsWay_135 : decode cX12_readsWay 135 = .ok (.invokevirtual 239, 3) := by decide +kernel
theorem dX12_readsWay_138 : decode cX12_readsWay 138 = .ok (.iastore, 1) := by decide +kernel
theorem dX12_readsWay_139 : decode cX12_readsWay 139 = .ok (.aload_n 0, 1) := by decide +kernel
theorem dX12_readsWay_140 : decode cX12_readsWay 140 = .ok (.invokevirtual 176, 3) := by decide +kernel
theorem dX12_readsWay_143 : decode cX12_readsWay 143 = .ok (.ifCond .eq 13, 3) := by decide +kernel
