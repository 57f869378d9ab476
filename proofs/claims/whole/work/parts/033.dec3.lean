theorem dX12_hold_258 : decode cX12_hold 258 = .ok (.iload 6, 2) := by decide +kernel
theorem dX12_hold_260 : decode cX12_hold 260 = .ok (.iload 9, 2) := by decide +kernel
theorem dX12_hold_262 : decode cX12_hold 262 = .ok (.invokevirtual 408, 3) := by decide +kernel
theorem dX12_hold_265 : decode cX12_hold 265 = .ok (.isub, 1) := by decide +kernel
theorem dX12_hold_266 : decode cX12_hold 266 = .ok (.istore 7, 2) := by decide +kernel
theorem dX12_hold_268 : decode cX12_hold 268 = .ok (.iload 5, 2) := by decide +kernel
theorem dX12_hold_270 : decode cX12_hold 270 = .ok (.iconst 1, 1) := by decide +kernel
theorem dX12_hold_271 : decode cX12_hold 271 = .ok (.iload 9, 2) := by decide +kernel
theorem dX12_hold_273 : decode cX12_hold 273 = .ok (.ishl, 1) := by decide +kernel
theorem dX12_hold_274 : decode cX12_hold 274 = .ok (.ior, 1) := by decide +kernel
theorem dX12_hold_275 : decode cX12_hold 275 = .ok (.istore 5, 2) := by decide +kernel
theorem dX12_hold_277 : decode cX12_hold 277 = .ok (.iload 9, 2) := by decide +kernel
theorem dX12_hold_279 : decode cX12_hold 279 = .ok (.istore 6, 2) := by decide +kernel
theorem dX12_hold_281 : decode cX12_hold 281 = .ok (.iinc 8 1, 3) := by decide +kernel
theorem dX12_hold_284 : decode cX12_hold 284 = .ok (.goto (-145), 3) := by decide +kernel
theorem dX12_hold_287 : decode cX12_hold 287 = .ok (.iload 6, 2) := by decide +kernel
theorem dX12_hold_289 : decode cX12_hold 289 = .ok (.ireturn, 1) := by decide +kernel
theorem dX12_power_0 : decode cX12_power 0 = .ok (.iconst 1, 1) := by decide +kernel
theorem dX12_power_1 : decode cX12_power 1 = .ok (.istore_n 1, 1) := by decide +kernel
theorem dX12_power_2 : decode cX12_power 2 = .ok (.iconst 0, 1) := by decide +kernel
theorem dX12_power_3 : decode cX12_power 3 = .ok (.istore_n 2, 1) := by decide +kernel
theorem dX12_power_4 : decode cX12_power 4 = .ok (.iload_n 2, 1) := by decide +kernel
theorem dX12_power_5 : decode cX12_power 5 = .ok (.iload_n 0, 1) := by decide +kernel
theorem dX12_power_6 : decode cX12_power 6 = .ok (.if_icmp .ge 14, 3) := by decide +kernel
theorem dX12_power_9 : decode cX12_power 9 = .ok (.bipush 12, 2) := by decide +kernel
theorem dX12_power_11 : decode cX12_power 11 = .ok (.iload_n 1, 1) := by decide +kernel
theorem dX12_power_12 : decode cX12_power 12 = .ok (.imul, 1) := by decide +kernel
theorem dX12_power_13 : decode cX12_power 13 = .ok (.istore_n 1, 1) := by decide +kernel
theorem dX12_power_14 : decode cX12_power 14 = .ok (.iinc 2 1, 3) := by decide +kernel
theorem dX12_power_17 : decode cX12_power 17 = .ok (.goto (-13), 3) := by decide +kernel
theorem dX12_power_20 : decode cX12_power 20 = .ok (.iload_n 1, 1) := by decide +kernel
theorem dX12_power_21 : decode cX12_power 21 = .ok (.ireturn, 1) := by decide +kernel
theorem dX12_thrower_0 : decode cX12_thrower 0 = .ok (.aload_n 0, 1) := by decide +kernel
theorem dX12_thrower_1 : decode cX12_thrower 1 = .ok (.iconst 0, 1) := by decide +kernel
theorem dX12_thrower_2 : decode cX12_thrower 2 = .ok (.putfield 117, 3) := by decide +kernel
theorem dX12_thrower_5 : decode cX12_thrower 5 = .ok (.aload_n 0, 1) := by decide +kernel
theorem dX12_thrower_6 : decode cX12_thrower 6 = .ok (.iload_n 1, 1) := by decide +kernel
theorem dX12_thrower_7 : decode cX12_thrower 7 = .ok (.iconst 0, 1) := by decide +kernel
theorem dX12_thrower_8 : decode cX12_thrower 8 = .ok (.bipush 20, 2) := by decide +kernel
theorem dX12_thrower_10 : decode cX12_thrower 10 = .ok (.invokestatic 346, 3) := by decide +kernel
theorem dX12_thrower_13 : decode cX12_thrower 13 = .ok (.ifCond .eq 38, 3) := by decide +kernel
theorem dX12_thrower_16 : decode cX12_thrower 16 = .ok (.iload_n 2, 1) := by decide +kernel
theorem dX12_thrower_17 : decode cX12_thrower 17 = .ok (.iconst 0, 1) := by decide +kernel
theorem dX12_thrower_18 : decode cX12_thrower 18 = .ok (.bipush 12, 2) := by decide +kernel
theorem dX12_thrower_20 : decode cX12_thrower 20 = .ok (.invokestatic 346, 3) := by decide +kernel
theorem dX12_thrower_23 : decode cX12_thrower 23 = .ok (.ifCond .eq 28, 3) := by decide +kernel
theorem dX12_thrower_26 : decode cX12_thrower 26 = .ok (.iload_n 3, 1) := by decide +kernel
theorem dX12_thrower_27 : decode cX12_thrower 27 = .ok (.iconst 1, 1) := by decide +kernel
theorem dX12_thrower_28 : decode cX12_thrower 28 = .ok (.bipush 20, 2) := by decide +kernel
theorem dX12_thrower_30 : decode cX12_thrower 30 = .ok (.invokestatic 346, 3) := by decide +kernel
theorem dX12_thrower_33 : decode cX12_thrower 33 = .ok (.ifCond .eq 18, 3) := by decide +kernel
theorem dX12_thrower_36 : decode cX12_thrower 36 = .ok (.iload 4, 2) := by decide +kernel
theorem dX12_thrower_38 : decode cX12_thrower 38 = .ok (.iconst 0, 1) := by decide +kernel
theorem dX12_thrower_39 : decode cX12_thrower 39 = .ok (.bipush 7, 2) := by decide +kernel
theorem dX12_thrower_41 : decode cX12_thrower 41 = .ok (.invokestatic 346, 3) := by decide +kernel
theorem dX12_thrower_44 : decode cX12_thrower 44 = .ok (.ifCond .eq 7, 3) := by decide +kernel
theorem dX12_thrower_47 : decode cX12_thrower 47 = .ok (.iconst 1, 1) := by decide +kernel
theorem dX12_thrower_48 : decode cX12_thrower 48 = .ok (.goto 4, 3) := by decide +kernel
theorem dX12_thrower_51 : decode cX12_thrower 51 = .ok (.iconst 0, 1) := by decide +kernel
theorem dX12_thrower_52 : decode cX12_thrower 52 = .ok (.iconst 1, 1) := by decide +kernel
theorem dX12_thrower_53 : decode cX12_thrower 53 = .ok (.invokevirtual 274, 3) := by decide +kernel
theorem dX12_thrower_56 : decode cX12_thrower 56 = .ok (.ifCond .ne 5, 3) := by decide +kernel
theorem dX12_thrower_59 : decode cX12_thrower 59 = .ok (.iconst 0, 1) := by decide +kernel
theorem dX12_thrower_60 : decode cX12_thrower 60 = .ok (.ireturn, 1) := by decide +kernel
theorem dX12_thrower_61 : decode cX12_thrower 61 = .ok (.iconst 0, 1) := by decide +kernel
theorem dX12_thrower_62 : decode cX12_thrower 62 = .ok (.istore 5, 2) := by decide +kernel
theorem dX12_thrower_64 : decode cX12_thrower 64 = .ok (.iload 5, 2) := by decide +kernel
theorem dX12_thrower_66 : decode cX12_thrower 66 = .ok (.iload 4, 2) := by decide +kernel
theorem dX12_thrower_68 : decode cX12_thrower 68 = .ok (.if_icmp .gt 105, 3) := by decide +kernel
theorem dX12_thrower_71 : decode cX12_thrower 71 = .ok (.iconst 0, 1) := by decide +kernel
theorem dX12_thrower_72 : decode cX12_thrower 72 = .ok (.istore 6, 2) := by decide +kernel
theorem dX12_thrower_74 : decode cX12_thrower 74 = .ok (.iload 6, 2) := by decide +kernel
theorem dX12_thrower_76 : decode cX12_thrower 76 = .ok (.bipush 30, 2) := by decide +kernel
theorem dX12_thrower_78 : decode cX12_thrower 78 = .ok (.if_icmp .ge 89, 3) := by decide +kernel
theorem dX12_thrower_81 : decode cX12_thrower 81 = .ok (.bipush 30, 2) := by decide +kernel
theorem dX12_thrower_83 : decode cX12_thrower 83 = .ok (.iload 5, 2) := by decide +kernel
theorem dX12_thrower_85 : decode cX12_thrower 85 = .ok (.imul, 1) := by decide +kernel
theorem dX12_thrower_86 : decode cX12_thrower 86 = .ok (.iload 6, 2) := by decide +kernel
theorem dX12_thrower_88 : decode cX12_thrower 88 = .ok (.iadd, 1) := by decide +kernel
theorem dX12_thrower_89 : decode cX12_thrower 89 = .ok (.istore 7, 2) := by decide +kernel
theorem dX12_thrower_91 : decode cX12_thrower 91 = .ok (.iload 6, 2) := by decide +kernel
theorem dX12_thrower_93 : decode cX12_thrower 93 = .ok (.iload_n 3, 1) := by decide +kernel
theorem dX12_thrower_94 : decode cX12_thrower 94 = .ok (.if_icmp .lt 18, 3) := by decide +kernel
theorem dX12_thrower_97 : decode cX12_thrower 97 = .ok (.aload_n 0, 1) := by decide +kernel
theorem dX12_thrower_98 : decode cX12_thrower 98 = .ok (.getfield 96, 3) := by decide +kernel
theorem dX12_thrower_101 : decode cX12_thrower 101 = .ok (.iload 7, 2) := by decide +kernel
theorem dX12_thrower_103 : decode cX12_thrower 103 = .ok (.iload 5, 2) := by decide +kernel
theorem dX12_thrower_105 : decode cX12_thrower 105 = .ok (.invokestatic 414, 3) := by decide +kernel
theorem dX12_thrower_108 : decode cX12_thrower 108 = .ok (.iastore, 1) := by decide +kernel
theorem dX12_thrower_109 : decode cX12_thrower 109 = .ok (.goto 52, 3) := by decide +kernel
theorem dX12_thrower_112 : decode cX12_thrower 112 = .ok (.aload_n 0, 1) := by decide +kernel
theorem dX12_thrower_113 : decode cX12_thrower 113 = .ok (.getfield 96, 3) := by decide +kernel
theorem dX12_thrower_116 : decode cX12_thrower 116 = .ok (.iload 7, 2) := by decide +kernel
theorem dX12_thrower_118 : decode cX12_thrower 118 = .ok (.iload 6, 2) := by decide +kernel
theorem dX12_thrower_120 : decode cX12_thrower 120 = .ok (.ifCond .eq 8, 3) := by decide +kernel
theorem dX12_thrower_123 : decode cX12_thrower 123 = .ok (.iload 5, 2) := by decide +kernel
theorem dX12_thrower_125 : decode cX12_thrower 125 = .ok (.ifCond .ne 7, 3) := by decide +kernel
theorem dX12_thrower_128 : decode cX12_thrower 128 = .ok (.iconst 0, 1) := by decide +kernel
theorem dX12_thrower_129 : decode cX12_thrower 129 = .ok (.goto 31, 3) := by decide +kernel
theorem dX12_thrower_132 : decode cX12_thrower 132 = .ok (.iload_n 2, 1) := by decide +kernel
theorem dX12_thrower_133 : decode cX12_thrower 133 = .ok (.aload_n 0, 1) := by decide +kernel
theorem dX12_thrower_134 : decode cX12_thrower 134 = .ok (.getfield 96, 3) := by decide +kernel
theorem dX12_thrower_137 : decode cX12_thrower 137 = .ok (.iload 7, 2) := by decide +kernel
theorem dX12_thrower_139 : decode cX12_thrower 139 = .ok (.bipush 29, 2) := by decide +kernel
theorem dX12_thrower_141 : decode cX12_thrower 141 = .ok (.isub, 1) := by decide +kernel
theorem dX12_thrower_142 : decode cX12_thrower 142 = .ok (.iaload, 1) := by decide +kernel
theorem dX12_thrower_143 : decode cX12_thrower 143 = .ok (.imul, 1) := by decide +kernel
theorem dX12_thrower_144 : decode cX12_thrower 144 = .ok (.bipush 12, 2) := by decide +kernel
theorem dX12_thrower_146 : decode cX12_thrower 146 = .ok (.iload_n 2, 1) := by decide +kernel
theorem dX12_thrower_147 : decode cX12_thrower 147 = .ok (.isub, 1) := by decide +kernel
theorem dX12_thrower_148 : decode cX12_thrower 148 = .ok (.aload_n 0, 1) := by decide +kernel
theorem dX12_thrower_149 : decode cX12_thrower 149 = .ok (.getfield 96, 3) := by decide +kernel
theorem dX12_thrower_152 : decode cX12_thrower 152 = .ok (.iload 7, 2) := by decide +kernel
theorem dX12_thrower_154 : decode cX12_thrower 154 = .ok (.bipush 31, 2) := by decide +kernel
theorem dX12_thrower_156 : decode cX12_thrower 156 = .ok (.isub, 1) := by decide +kernel
theorem dX12_thrower_157 : decode cX12_thrower 157 = .ok (.iaload, 1) := by decide +kernel
theorem dX12_thrower_158 : decode cX12_thrower 158 = .ok (.imul, 1) := by decide +kernel
theorem dX12_thrower_159 : decode cX12_thrower 159 = .ok (.iadd, 1) := by decide +kernel
theorem dX12_thrower_160 : decode cX12_thrower 160 = .ok (.iastore, 1) := by decide +kernel
theorem dX12_thrower_161 : decode cX12_thrower 161 = .ok (.iinc 6 1, 3) := by decide +kernel
theorem dX12_thrower_164 : decode cX12_thrower 164 = .ok (.goto (-90), 3) := by decide +kernel
theorem dX12_thrower_167 : decode cX12_thrower 167 = .ok (.iinc 5 1, 3) := by decide +kernel
theorem dX12_thrower_170 : decode cX12_thrower 170 = .ok (.goto (-106), 3) := by decide +kernel
theorem dX12_thrower_173 : decode cX12_thrower 173 = .ok (.aload_n 0, 1) := by decide +kernel
theorem dX12_thrower_174 : decode cX12_thrower 174 = .ok (.getfield 96, 3) := by decide +kernel
theorem dX12_thrower_177 : decode cX12_thrower 177 = .ok (.bipush 30, 2) := by decide +kernel
theorem dX12_thrower_179 : decode cX12_thrower 179 = .ok (.iload 4, 2) := by decide +kernel
theorem dX12_thrower_181 : decode cX12_thrower 181 = .ok (.imul, 1) := by decide +kernel
theorem dX12_thrower_182 : decode cX12_thrower 182 = .ok (.iload_n 1, 1) := by decide +kernel
theorem dX12_thrower_183 : decode cX12_thrower 183 = .ok (.iadd, 1) := by decide +kernel
theorem dX12_thrower_184 : decode cX12_thrower 184 = .ok (.iaload, 1) := by decide +kernel
theorem dX12_thrower_185 : decode cX12_thrower 185 = .ok (.ireturn, 1) := by decide +kernel
theorem dX12_stop_0 : decode cX12_stop 0 = .ok (.aload_n 0, 1) := by decide +kernel
theorem dX12_stop_1 : decode cX12_stop 1 = .ok (.iconst 0, 1) := by decide +kernel
theorem dX12_stop_2 : decode cX12_stop 2 = .ok (.putfield 117, 3) := by decide +kernel
theorem dX12_stop_5 : decode cX12_stop 5 = .ok (.aload_n 0, 1) := by decide +kernel
theorem dX12_stop_6 : decode cX12_stop 6 = .ok (.iload 4, 2) := by decide +kernel
theorem dX12_stop_8 : decode cX12_stop 8 = .ok (.iconst 1, 1) := by decide +kernel
theorem dX12_stop_9 : decode cX12_stop 9 = .ok (.invokevirtual 365, 3) := by decide +kernel
theorem dX12_stop_12 : decode cX12_stop 12 = .ok (.ifCond .eq 46, 3) := by decide +kernel
theorem dX12_stop_15 : decode cX12_stop 15 = .ok (.aload_n 0, 1) := by decide +kernel
theorem dX12_stop_16 : decode cX12_stop 16 = .ok (.iload_n 1, 1) := by decide +kernel
theorem dX12_stop_17 : decode cX12_stop 17 = .ok (.iconst 0, 1) := by decide +kernel
theorem dX12_stop_18 : decode cX12_stop 18 = .ok (.bipush 20, 2) := by decide +kernel
theorem dX12_stop_20 : decode cX12_stop 20 = .ok (.invokestatic 346, 3) := by decide +kernel
theorem dX12_stop_23 : decode cX12_stop 23 = .ok (.ifCond .eq 27, 3) := by decide +kernel
theorem dX12_stop_26 : decode cX12_stop 26 = .ok (.iload_n 2, 1) := by decide +kernel
theorem dX12_stop_27 : decode cX12_stop 27 = .ok (.iconst 0, 1) := by decide +kernel
theorem dX12_stop_28 : decode cX12_stop 28 = .ok (.bipush 12, 2) := by decide +kernel
theorem dX12_stop_30 : decode cX12_stop 30 = .ok (.invokestatic 346, 3) := by decide +kernel
theorem dX12_stop_33 : decode cX12_stop 33 = .ok (.ifCond .eq 17, 3) := by decide +kernel
theorem dX12_stop_36 : decode cX12_stop 36 = .ok (.iload_n 3, 1) := by decide +kernel
theorem dX12_stop_37 : decode cX12_stop 37 = .ok (.iconst 1, 1) := by decide +kernel
theorem dX12_stop_38 : decode cX12_stop 38 = .ok (.bipush 7, 2) := by decide +kernel
theorem dX12_stop_40 : decode cX12_stop 40 = .ok (.invokestatic 346, 3) := by decide +kernel
theorem dX12_stop_43 : decode cX12_stop 43 = .ok (.ifCond .eq 7, 3) := by decide +kernel
theorem dX12_stop_46 : decode cX12_stop 46 = .ok (.iconst 1, 1) := by decide +kernel
theorem dX12_stop_47 : decode cX12_stop 47 = .ok (.goto 4, 3) := by decide +kernel
theorem dX12_stop_50 : decode cX12_stop 50 = .ok (.iconst 0, 1) := by decide +kernel
theorem dX12_stop_51 : decode cX12_stop 51 = .ok (.iconst 2, 1) := by decide +kernel
theorem dX12_stop_52 : decode cX12_stop 52 = .ok (.invokevirtual 274, 3) := by decide +kernel
theorem dX12_stop_55 : decode cX12_stop 55 = .ok (.ifCond .ne 5, 3) := by decide +kernel
theorem dX12_stop_58 : decode cX12_stop 58 = .ok (.iconst 0, 1) := by decide +kernel
theorem dX12_stop_59 : decode cX12_stop 59 = .ok (.ireturn, 1) := by decide +kernel
theorem dX12_stop_60 : decode cX12_stop 60 = .ok (.iconst 0, 1) := by decide +kernel
theorem dX12_stop_61 : decode cX12_stop 61 = .ok (.istore 5, 2) := by decide +kernel
theorem dX12_stop_63 : decode cX12_stop 63 = .ok (.iconst 0, 1) := by decide +kernel
theorem dX12_stop_64 : decode cX12_stop 64 = .ok (.istore 6, 2) := by decide +kernel
theorem dX12_stop_66 : decode cX12_stop 66 = .ok (.iload 6, 2) := by decide +kernel
theorem dX12_stop_68 : decode cX12_stop 68 = .ok (.iload_n 3, 1) := by decide +kernel
theorem dX12_stop_69 : decode cX12_stop 69 = .ok (.if_icmp .gt 139, 3) := by decide +kernel
theorem dX12_stop_72 : decode cX12_stop 72 = .ok (.iconst 0, 1) := by decide +kernel
theorem dX12_stop_73 : decode cX12_stop 73 = .ok (.istore 7, 2) := by decide +kernel
theorem dX12_stop_75 : decode cX12_stop 75 = .ok (.iload 7, 2) := by decide +kernel
theorem dX12_stop_77 : decode cX12_stop 77 = .ok (.bipush 29, 2) := by decide +kernel
theorem dX12_stop_79 : decode cX12_stop 79 = .ok (.iload 6, 2) := by decide +kernel
theorem dX12_stop_81 : decode cX12_stop 81 = .ok (.isub, 1) := by decide +kernel
theorem dX12_stop_82 : decode cX12_stop 82 = .ok (.if_icmp .ge 120, 3) := by decide +kernel
theorem dX12_stop_85 : decode cX12_stop 85 = .ok (.bipush 30, 2) := by decide +kernel
theorem dX12_stop_87 : decode cX12_stop 87 = .ok (.iload 6, 2) := by decide +kernel
theorem dX12_stop_89 : decode cX12_stop 89 = .ok (.imul, 1) := by decide +kernel
theorem dX12_stop_90 : decode cX12_stop 90 = .ok (.iload 7, 2) := by decide +kernel
theorem dX12_stop_92 : decode cX12_stop 92 = .ok (.iadd, 1) := by decide +kernel
theorem dX12_stop_93 : decode cX12_stop 93 = .ok (.istore 8, 2) := by decide +kernel
theorem dX12_stop_95 : decode cX12_stop 95 = .ok (.iload 7, 2) := by decide +kernel
theorem dX12_stop_97 : decode cX12_stop 97 = .ok (.iload 6, 2) := by decide +kernel
theorem dX12_stop_99 : decode cX12_stop 99 = .ok (.invokestatic 414, 3) := by decide +kernel
theorem dX12_stop_102 : decode cX12_stop 102 = .ok (.imul, 1) := by decide +kernel
theorem dX12_stop_103 : decode cX12_stop 103 = .ok (.istore 9, 2) := by decide +kernel
theorem dX12_stop_105 : decode cX12_stop 105 = .ok (.iload 7, 2) := by decide +kernel
theorem dX12_stop_107 : decode cX12_stop 107 = .ok (.ifCond .eq 8, 3) := by decide +kernel
theorem dX12_stop_110 : decode cX12_stop 110 = .ok (.iload 6, 2) := by decide +kernel
theorem dX12_stop_112 : decode cX12_stop 112 = .ok (.ifCond .ne 7, 3) := by decide +kernel
theorem dX12_stop_115 : decode cX12_stop 115 = .ok (.iconst 0, 1) := by decide +kernel
theorem dX12_stop_116 : decode cX12_stop 116 = .ok (.goto 31, 3) := by decide +kernel
theorem dX12_stop_119 : decode cX12_stop 119 = .ok (.iload_n 2, 1) := by decide +kernel
theorem dX12_stop_120 : decode cX12_stop 120 = .ok (.aload_n 0, 1) := by decide +kernel
theorem dX12_stop_121 : decode cX12_stop 121 = .ok (.getfield 96, 3) := by decide +kernel
theorem dX12_stop_124 : decode cX12_stop 124 = .ok (.iload 8, 2) := by decide +kernel
theorem dX12_stop_126 : decode cX12_stop 126 = .ok (.bipush 29, 2) := by decide +kernel
theorem dX12_stop_128 : decode cX12_stop 128 = .ok (.isub, 1) := by decide +kernel
theorem dX12_stop_129 : decode cX12_stop 129 = .ok (.iaload, 1) := by decide +kernel
theorem dX12_stop_130 : decode cX12_stop 130 = .ok (.imul, 1) := by decide +kernel
theorem dX12_stop_131 : decode cX12_stop 131 = .ok (.bipush 12, 2) := by decide +kernel
theorem dX12_stop_133 : decode cX12_stop 133 = .ok (.iload_n 2, 1) := by decide +kernel
theorem dX12_stop_134 : decode cX12_stop 134 = .ok (.isub, 1) := by decide +kernel
theorem dX12_stop_135 : decode cX12_stop 135 = .ok (.aload_n 0, 1) := by decide +kernel
theorem dX12_stop_136 : decode cX12_stop 136 = .ok (.getfield 96, 3) := by decide +kernel
theorem dX12_stop_139 : decode cX12_stop 139 = .ok (.iload 8, 2) := by decide +kernel
theorem dX12_stop_141 : decode cX12_stop 141 = .ok (.bipush 31, 2) := by decide +kernel
theorem dX12_stop_143 : decode cX12_stop 143 = .ok (.isub, 1) := by decide +kernel
theorem dX12_stop_144 : decode cX12_stop 144 = .ok (.iaload, 1) := by decide +kernel
theorem dX12_stop_145 : decode cX12_stop 145 = .ok (.imul, 1) := by decide +kernel
theorem dX12_stop_146 : decode cX12_stop 146 = .ok (.iadd, 1) := by decide +kernel
theorem dX12_stop_147 : decode cX12_stop 147 = .ok (.istore 10, 2) := by decide +kernel
theorem dX12_stop_149 : decode cX12_stop 149 = .ok (.aload_n 0, 1) := by decide +kernel
theorem dX12_stop_150 : decode cX12_stop 150 = .ok (.getfield 96, 3) := by decide +kernel
theorem dX12_stop_153 : decode cX12_stop 153 = .ok (.iload 8, 2) := by decide +kernel
theorem dX12_stop_155 : decode cX12_stop 155 = .ok (.iload 10, 2) := by decide +kernel
theorem dX12_stop_157 : decode cX12_stop 157 = .ok (.iload 9, 2) := by decide +kernel
theorem dX12_stop_159 : decode cX12_stop 159 = .ok (.if_icmp .le 8, 3) := by decide +kernel
theorem dX12_stop_162 : decode cX12_stop 162 = .ok (.iload 10, 2) := by decide +kernel
theorem dX12_stop_164 : decode cX12_stop 164 = .ok (.goto 5, 3) := by decide +kernel
theorem dX12_stop_167 : decode cX12_stop 167 = .ok (.iload 9, 2) := by decide +kernel
theorem dX12_stop_169 : decode cX12_stop 169 = .ok (.iastore, 1) := by decide +kernel
theorem dX12_stop_170 : decode cX12_stop 170 = .ok (.iload 6, 2) := by decide +kernel
theorem dX12_stop_172 : decode cX12_stop 172 = .ok (.iload_n 3, 1) := by decide +kernel
theorem dX12_stop_173 : decode cX12_stop 173 = .ok (.if_icmp .ne 23, 3) := by decide +kernel
theorem dX12_stop_176 : decode cX12_stop 176 = .ok (.iload 7, 2) := by decide +kernel
theorem dX12_stop_178 : decode cX12_stop 178 = .ok (.iload_n 1, 1) := by decide +kernel
theorem dX12_stop_179 : decode cX12_stop 179 = .ok (.if_icmp .ne 17, 3) := by decide +kernel
theorem dX12_stop_182 : decode cX12_stop 182 = .ok (.iload 10, 2) := by decide +kernel
theorem dX12_stop_184 : decode cX12_stop 184 = .ok (.iload 9, 2) := by decide +kernel
theorem dX12_stop_186 : decode cX12_stop 186 = .ok (.if_icmp .le 7, 3) := by decide +kernel
theorem dX12_stop_189 : decode cX12_stop 189 = .ok (.iconst 1, 1) := by decide +kernel
theorem dX12_stop_190 : decode cX12_stop 190 = .ok (.goto 4, 3) := by decide +kernel
theorem dX12_stop_193 : decode cX12_stop 193 = .ok (.iconst 0, 1) := by decide +kernel
theorem dX12_stop_194 : decode cX12_stop 194 = .ok (.istore 5, 2) := by decide +kernel
theorem dX12_stop_196 : decode cX12_stop 196 = .ok (.iinc 7 1, 3) := by decide +kernel
theorem dX12_stop_199 : decode cX12_stop 199 = .ok (.goto (-124), 3) := by decide +kernel
theorem dX12_stop_202 : decode cX12_stop 202 = .ok (.iinc 6 1, 3) := by decide +kernel
theorem dX12_stop_205 : decode cX12_stop 205 = .ok (.goto (-139), 3) := by decide +kernel
theorem dX12_stop_208 : decode cX12_stop 208 = .ok (.iload 4, 2) := by decide +kernel
theorem dX12_stop_210 : decode cX12_stop 210 = .ok (.ifCond .ne 17, 3) := by decide +kernel
theorem dX12_stop_213 : decode cX12_stop 213 = .ok (.aload_n 0, 1) := by decide +kernel
theorem dX12_stop_214 : decode cX12_stop 214 = .ok (.getfield 96, 3) := by decide +kernel
theorem dX12_stop_217 : decode cX12_stop 217 = .ok (.bipush 30, 2) := by decide +kernel
theorem dX12_stop_219 : decode cX12_stop 219 = .ok (.iload_n 3, 1) := by decide +kernel
theorem dX12_stop_220 : decode cX12_stop 220 = .ok (.imul, 1) := by decide +kernel
theorem dX12_stop_221 : decode cX12_stop 221 = .ok (.iload_n 1, 1) := by decide +kernel
theorem dX12_stop_222 : decode cX12_stop 222 = .ok (.iadd, 1) := by decide +kernel
theorem dX12_stop_223 : decode cX12_stop 223 = .ok (.iaload, 1) := by decide +kernel
theorem dX12_stop_224 : decode cX12_stop 224 = .ok (.goto 13, 3) := by decide +kernel
theorem dX12_stop_227 : decode cX12_stop 227 = .ok (.iload 5, 2) := by decide +kernel
theorem dX12_stop_229 : decode cX12_stop 229 = .ok (.ifCond .eq 7, 3) := by decide +kernel
theorem dX12_stop_232 : decode cX12_stop 232 = .ok (.iconst 1, 1) := by decide +kernel
theorem dX12_stop_233 : decode cX12_stop 233 = .ok (.goto 4, 3) := by decide +kernel
theorem dX12_stop_236 : decode cX12_stop 236 = .ok (.iconst 0, 1) := by decide +kernel
theorem dX12_stop_237 : decode cX12_stop 237 = .ok (.ireturn, 1) := by decide +kernel
theorem dX12_see_0 : decode cX12_see 0 = .ok (.aload_n 0, 1) := by decide +kernel
theorem dX12_see_1 : decode cX12_see 1 = .ok (.iconst 0, 1) := by decide +kernel
theorem dX12_see_2 : decode cX12_see 2 = .ok (.putfield 117, 3) := by decide +kernel
theorem dX12_see_5 : decode cX12_see 5 = .ok (.aload_n 0, 1) := by decide +kernel
theorem dX12_see_6 : decode cX12_see 6 = .ok (.iload_n 1, 1) := by decide +kernel
theorem dX12_see_7 : decode cX12_see 7 = .ok (.invokevirtual 362, 3) := by decide +kernel
theorem dX12_see_10 : decode cX12_see 10 = .ok (.ifCond .ne 5, 3) := by decide +kernel
theorem dX12_see_13 : decode cX12_see 13 = .ok (.iconst 0, 1) := by decide +kernel
theorem dX12_see_14 : decode cX12_see 14 = .ok (.ireturn, 1) := by decide +kernel
theorem dX12_see_15 : decode cX12_see 15 = .ok (.aload_n 0, 1) := by decide +kernel
theorem dX12_see_16 : decode cX12_see 16 = .ok (.getfield 297, 3) := by decide +kernel
theorem dX12_see_19 : decode cX12_see 19 = .ok (.bipush 8, 2) := by decide +kernel
theorem dX12_see_21 : decode cX12_see 21 = .ok (.if_icmp .eq 24, 3) := by decide +kernel
theorem dX12_see_24 : decode cX12_see 24 = .ok (.iload_n 2, 1) := by decide +kernel
theorem dX12_see_25 : decode cX12_see 25 = .ok (.iconst 0, 1) := by decide +kernel
theorem dX12_see_26 : decode cX12_see 26 = .ok (.bipush 30, 2) := by decide +kernel
theorem dX12_see_28 : decode cX12_see 28 = .ok (.invokestatic 346, 3) := by decide +kernel
theorem dX12_see_31 : decode cX12_see 31 = .ok (.ifCond .eq 14, 3) := by decide +kernel
theorem dX12_see_34 : decode cX12_see 34 = .ok (.iload_n 3, 1) := by decide +kernel
theorem dX12_see_35 : decode cX12_see 35 = .ok (.iconst 0, 1) := by decide +kernel
theorem dX12_see_36 : decode cX12_see 36 = .ok (.sipush 9999, 3) := by decide +kernel
theorem dX12_see_39 : decode cX12_see 39 = .ok (.invokestatic 346, 3) := by decide +kernel
theorem dX12_see_42 : decode cX12_see 42 = .ok (.ifCond .ne 9, 3) := by decide +kernel
theorem dX12_see_45 : decode cX12_see 45 = .ok (.aload_n 0, 1) := by decide +kernel
theorem dX12_see_46 : decode cX12_see 46 = .ok (.iconst 2, 1) := by decide +kernel
theorem dX12_see_47 : decode cX12_see 47 = .ok (.invokevirtual 371, 3) := by decide +kernel
theorem dX12_see_50 : decode cX12_see 50 = .ok (.ireturn, 1) := by decide +kernel
theorem dX12_see_51 : decode cX12_see 51 = .ok (.aload_n 0, 1) := by decide +kernel
theorem dX12_see_52 : decode cX12_see 52 = .ok (.getfield 99, 3) := by decide +kernel
theorem dX12_see_55 : decode cX12_see 55 = .ok (.iconst 3, 1) := by decide +kernel
theorem dX12_see_56 : decode cX12_see 56 = .ok (.aload_n 0, 1) := by decide +kernel
theorem dX12_see_57 : decode cX12_see 57 = .ok (.getfield 297, 3) := by decide +kernel
theorem dX12_see_60 : decode cX12_see 60 = .ok (.imul, 1) := by decide +kernel
theorem dX12_see_61 : decode cX12_see 61 = .ok (.iload_n 1, 1) := by decide +kernel
theorem dX12_see_62 : decode cX12_see 62 = .ok (.iastore, 1) := by decide +kernel
theorem dX12_see_63 : decode cX12_see 63 = .ok (.aload_n 0, 1) := by decide +kernel
theorem dX12_see_64 : decode cX12_see 64 = .ok (.getfield 99, 3) := by decide +kernel
theorem dX12_see_67 : decode cX12_see 67 = .ok (.iconst 3, 1) := by decide +kernel
theorem dX12_see_68 : decode cX12_see 68 = .ok (.aload_n 0, 1) := by decide +kernel
theorem dX12_see_69 : decode cX12_see 69 = .ok (.getfield 297, 3) := by decide +kernel
theorem dX12_see_72 : decode cX12_see 72 = .ok (.imul, 1) := by decide +kernel
theorem dX12_see_73 : decode cX12_see 73 = .ok (.iconst 1, 1) := by decide +kernel
theorem dX12_see_74 : decode cX12_see 74 = .ok (.iadd, 1) := by decide +kernel
theorem dX12_see_75 : decode cX12_see 75 = .ok (.iload_n 2, 1) := by decide +kernel
theorem dX12_see_76 : decode cX12_see 76 = .ok (.iastore, 1) := by decide +kernel
theorem dX12_see_77 : decode cX12_see 77 = .ok (.aload_n 0, 1) := by decide +kernel
theorem dX12_see_78 : decode cX12_see 78 = .ok (.getfield 99, 3) := by decide +kernel
theorem dX12_see_81 : decode cX12_see 81 = .ok (.iconst 3, 1) := by decide +kernel
theorem dX12_see_82 : decode cX12_see 82 = .ok (.aload_n 0, 1) := by decide +kernel
theorem dX12_see_83 : decode cX12_see 83 = .ok (.getfield 297, 3) := by decide +kernel
theorem dX12_see_86 : decode cX12_see 86 = .ok (.imul, 1) := by decide +kernel
theorem dX12_see_87 : decode cX12_see 87 = .ok (.iconst 2, 1) := by decide +kernel
theorem dX12_see_88 : decode cX12_see 88 = .ok (.iadd, 1) := by decide +kernel
theorem dX12_see_89 : decode cX12_see 89 = .ok (.iload_n 3, 1) := by decide +kernel
theorem dX12_see_90 : decode cX12_see 90 = .ok (.iastore, 1) := by decide +kernel
theorem dX12_see_91 : decode cX12_see 91 = .ok (.aload_n 0, 1) := by decide +kernel
theorem dX12_see_92 : decode cX12_see 92 = .ok (.dup, 1) := by decide +kernel
theorem dX12_see_93 : decode cX12_see 93 = .ok (.getfield 297, 3) := by decide +kernel
theorem dX12_see_96 : decode cX12_see 96 = .ok (.iconst 1, 1) := by decide +kernel
theorem dX12_see_97 : decode cX12_see 97 = .ok (.iadd, 1) := by decide +kernel
theorem dX12_see_98 : decode cX12_see 98 = .ok (.putfield 297, 3) := by decide +kernel
theorem dX12_see_101 : decode cX12_see 101 = .ok (.aload_n 0, 1) := by decide +kernel
theorem dX12_see_102 : decode cX12_see 102 = .ok (.getfield 297, 3) := by decide +kernel
theorem dX12_see_105 : decode cX12_see 105 = .ok (.ireturn, 1) := by decide +kernel
theorem dX12_forget_0 : decode cX12_forget 0 = .ok (.aload_n 0, 1) := by decide +kernel
theorem dX12_forget_1 : decode cX12_forget 1 = .ok (.iconst 0, 1) := by decide +kernel
theorem dX12_forget_2 : decode cX12_forget 2 = .ok (.putfield 117, 3) := by decide +kernel
theorem dX12_forget_5 : decode cX12_forget 5 = .ok (.aload_n 0, 1) := by decide +kernel
theorem dX12_forget_6 : decode cX12_forget 6 = .ok (.iconst 0, 1) := by decide +kernel
theorem dX12_forget_7 : decode cX12_forget 7 = .ok (.putfield 297, 3) := by decide +kernel
theorem dX12_forget_10 : decode cX12_forget 10 = .ok (.return_, 1) := by decide +kernel
theorem dX12_isSeen_0 : decode cX12_isSeen 0 = .ok (.aload_n 0, 1) := by decide +kernel
theorem dX12_isSeen_1 : decode cX12_isSeen 1 = .ok (.invokevirtual 389, 3) := by decide +kernel
theorem dX12_isSeen_4 : decode cX12_isSeen 4 = .ok (.iconst 0, 1) := by decide +kernel
theorem dX12_isSeen_5 : decode cX12_isSeen 5 = .ok (.istore_n 3, 1) := by decide +kernel
theorem dX12_isSeen_6 : decode cX12_isSeen 6 = .ok (.iload_n 3, 1) := by decide +kernel
theorem dX12_isSeen_7 : decode cX12_isSeen 7 = .ok (.bipush 30, 2) := by decide +kernel
theorem dX12_isSeen_9 : decode cX12_isSeen 9 = .ok (.if_icmp .gt 72, 3) := by decide +kernel
theorem dX12_isSeen_12 : decode cX12_isSeen 12 = .ok (.iload_n 1, 1) := by decide +kernel
theorem dX12_isSeen_13 : decode cX12_isSeen 13 = .ok (.iconst (-1), 1) := by decide +kernel
theorem dX12_isSeen_14 : decode cX12_isSeen 14 = .ok (.if_icmp .eq 15, 3) := by decide +kernel
theorem dX12_isSeen_17 : decode cX12_isSeen 17 = .ok (.iload_n 3, 1) := by decide +kernel
theorem dX12_isSeen_18 : decode cX12_isSeen 18 = .ok (.iload_n 2, 1) := by decide +kernel
theorem dX12_isSeen_19 : decode cX12_isSeen 19 = .ok (.if_icmp .ne 10, 3) := by decide +kernel
theorem dX12_isSeen_22 : decode cX12_isSeen 22 = .ok (.aload_n 0, 1) := by decide +kernel
theorem dX12_isSeen_23 : decode cX12_isSeen 23 = .ok (.bipush 85, 2) := by decide +kernel
theorem dX12_isSeen_25 : decode cX12_isSeen 25 = .ok (.iload_n 1, 1) := by decide +kernel
theorem dX12_isSeen_26 : decode cX12_isSeen 26 = .ok (.invokevirtual 383, 3) := by decide +kernel
theorem dX12_isSeen_29 : decode cX12_isSeen 29 = .ok (.iconst 0, 1) := by decide +kernel
theorem dX12_isSeen_30 : decode cX12_isSeen 30 = .ok (.istore 4, 2) := by decide +kernel
theorem dX12_isSeen_32 : decode cX12_isSeen 32 = .ok (.iload 4, 2) := by decide +kernel
theorem dX12_isSeen_34 : decode cX12_isSeen 34 = .ok (.aload_n 0, 1) := by decide +kernel
theorem dX12_isSeen_35 : decode cX12_isSeen 35 = .ok (.getfield 281, 3) := by decide +kernel
theorem dX12_isSeen_38 : decode cX12_isSeen 38 = .ok (.if_icmp .ge 31, 3) := by decide +kernel
theorem dX12_isSeen_41 : decode cX12_isSeen 41 = .ok (.aload_n 0, 1) := by decide +kernel
theorem dX12_isSeen_42 : decode cX12_isSeen 42 = .ok (.getfield 102, 3) := by decide +kernel
theorem dX12_isSeen_45 : decode cX12_isSeen 45 = .ok (.bipush 8, 2) := by decide +kernel
theorem dX12_isSeen_47 : decode cX12_isSeen 47 = .ok (.iload_n 3, 1) := by decide +kernel
theorem dX12_isSeen_48 : decode cX12_isSeen 48 = .ok (.imul, 1) := by decide +kernel
theorem dX12_isSeen_49 : decode cX12_isSeen 49 = .ok (.iload 4, 2) := by decide +kernel
theorem dX12_isSeen_51 : decode cX12_isSeen 51 = .ok (.iadd, 1) := by decide +kernel
theorem dX12_isSeen_52 : decode cX12_isSeen 52 = .ok (.aload_n 0, 1) := by decide +kernel
theorem dX12_isSeen_53 : decode cX12_isSeen 53 = .ok (.getfield 75, 3) := by decide +kernel
theorem dX12_isSeen_56 : decode cX12_isSeen 56 = .ok (.bipush 86, 2) := by decide +kernel
theorem dX12_isSeen_58 : decode cX12_isSeen 58 = .ok (.iload 4, 2) := by decide +kernel
theorem dX12_isSeen_60 : decode cX12_isSeen 60 = .ok (.iadd, 1) := by decide +kernel
theorem dX12_isSeen_61 : decode cX12_isSeen 61 = .ok (.iaload, 1) := by decide +kernel
theorem dX12_isSeen_62 : decode cX12_isSeen 62 = .ok (.iastore, 1) := by decide +kernel
theorem dX12_isSeen_63 : decode cX12_isSeen 63 = .ok (.iinc 4 1, 3) := by decide +kernel
theorem dX12_isSeen_66 : decode cX12_isSeen 66 = .ok (.goto (-34), 3) := by decide +kernel
theorem dX12_isSeen_69 : decode cX12_isSeen 69 = .ok (.aload_n 0, 1) := by decide +kernel
theorem dX12_isSeen_70 : decode cX12_isSeen 70 = .ok (.bipush 85, 2) := by decide +kernel
theorem dX12_isSeen_72 : decode cX12_isSeen 72 = .ok (.invokevirtual 343, 3) := by decide +kernel
theorem dX12_isSeen_75 : decode cX12_isSeen 75 = .ok (.iinc 3 1, 3) := by decide +kernel
theorem dX12_isSeen_78 : decode cX12_isSeen 78 = .ok (.goto (-72), 3) := by decide +kernel
theorem dX12_isSeen_81 : decode cX12_isSeen 81 = .ok (.iconst 0, 1) := by decide +kernel
theorem dX12_isSeen_82 : decode cX12_isSeen 82 = .ok (.istore_n 3, 1) := by decide +kernel
theorem dX12_isSeen_83 : decode cX12_isSeen 83 = .ok (.iload_n 3, 1) := by decide +kernel
theorem dX12_isSeen_84 : decode cX12_isSeen 84 = .ok (.aload_n 0, 1) := by decide +kernel
theorem dX12_isSeen_85 : decode cX12_isSeen 85 = .ok (.getfield 297, 3) := by decide +kernel
theorem dX12_isSeen_88 : decode cX12_isSeen 88 = .ok (.if_icmp .ge 51, 3) := by decide +kernel
theorem dX12_isSeen_91 : decode cX12_isSeen 91 = .ok (.aload_n 0, 1) := by decide +kernel
theorem dX12_isSeen_92 : decode cX12_isSeen 92 = .ok (.getfield 102, 3) := by decide +kernel
theorem dX12_isSeen_95 : decode cX12_isSeen 95 = .ok (.bipush 8, 2) := by decide +kernel
theorem dX12_isSeen_97 : decode cX12_isSeen 97 = .ok (.aload_n 0, 1) := by decide +kernel
theorem dX12_isSeen_98 : decode cX12_isSeen 98 = .ok (.getfield 99, 3) := by decide +kernel
theorem dX12_isSeen_101 : decode cX12_isSeen 101 = .ok (.iconst 3, 1) := by decide +kernel
theorem dX12_isSeen_102 : decode cX12_isSeen 102 = .ok (.iload_n 3, 1) := by decide +kernel
theorem dX12_isSeen_103 : decode cX12_isSeen 103 = .ok (.imul, 1) := by decide +kernel
theorem dX12_isSeen_104 : decode cX12_isSeen 104 = .ok (.iconst 1, 1) := by decide +kernel
theorem dX12_isSeen_105 : decode cX12_isSeen 105 = .ok (.iadd, 1) := by decide +kernel
theorem dX12_isSeen_106 : decode cX12_isSeen 106 = .ok (.iaload, 1) := by decide +kernel
theorem dX12_isSeen_107 : decode cX12_isSeen 107 = .ok (.imul, 1) := by decide +kernel
theorem dX12_isSeen_108 : decode cX12_isSeen 108 = .ok (.aload_n 0, 1) := by decide +kernel
theorem dX12_isSeen_109 : decode cX12_isSeen 109 = .ok (.getfield 99, 3) := by decide +kernel
theorem dX12_isSeen_112 : decode cX12_isSeen 112 = .ok (.iconst 3, 1) := by decide +kernel
theorem dX12_isSeen_113 : decode cX12_isSeen 113 = .ok (.iload_n 3, 1) := by decide +kernel
theorem dX12_isSeen_114 : decode cX12_isSeen 114 = .ok (.imul, 1) := by decide +kernel
theorem dX12_isSeen_115 : decode cX12_isSeen 115 = .ok (.iaload, 1) := by decide +kernel
theorem dX12_isSeen_116 : decode cX12_isSeen 116 = .ok (.iadd, 1) := by decide +kernel
theorem dX12_isSeen_117 : decode cX12_isSeen 117 = .ok (.iaload, 1) := by decide +kernel
theorem dX12_isSeen_118 : decode cX12_isSeen 118 = .ok (.aload_n 0, 1) := by decide +kernel
theorem dX12_isSeen_119 : decode cX12_isSeen 119 = .ok (.getfield 99, 3) := by decide +kernel
theorem dX12_isSeen_122 : decode cX12_isSeen 122 = .ok (.iconst 3, 1) := by decide +kernel
theorem dX12_isSeen_123 : decode cX12_isSeen 123 = .ok (.iload_n 3, 1) := by decide +kernel
theorem dX12_isSeen_124 : decode cX12_isSeen 124 = .ok (.imul, 1) := by decide +kernel
theorem dX12_isSeen_125 : decode cX12_isSeen 125 = .ok (.iconst 2, 1) := by decide +kernel
theorem dX12_isSeen_126 : decode cX12_isSeen 126 = .ok (.iadd, 1) := by decide +kernel
theorem dX12_isSeen_127 : decode cX12_isSeen 127 = .ok (.iaload, 1) := by decide +kernel
theorem dX12_isSeen_128 : decode cX12_isSeen 128 = .ok (.if_icmp .eq 5, 3) := by decide +kernel
theorem dX12_isSeen_131 : decode cX12_isSeen 131 = .ok (.iconst 0, 1) := by decide +kernel
theorem dX12_isSeen_132 : decode cX12_isSeen 132 = .ok (.ireturn, 1) := by decide +kernel
theorem dX12_isSeen_133 : decode cX12_isSeen 133 = .ok (.iinc 3 1, 3) := by decide +kernel
theorem dX12_isSeen_136 : decode cX12_isSeen 136 = .ok (.goto (-53), 3) := by decide +kernel
theorem dX12_isSeen_139 : decode cX12_isSeen 139 = .ok (.iconst 1, 1) := by decide +kernel
theorem dX12_isSeen_140 : decode cX12_isSeen 140 = .ok (.ireturn, 1) := by decide +kernel
theorem dX12_isGuess_0 : decode cX12_isGuess 0 = .ok (.aload_n 0, 1) := by decide +kernel
theorem dX12_isGuess_1 : decode cX12_isGuess 1 = .ok (.iconst 0, 1) := by decide +kernel
theorem dX12_isGuess_2 : decode cX12_isGuess 2 = .ok (.iload_n 1, 1) := by decide +kernel
theorem dX12_isGuess_3 : decode cX12_isGuess 3 = .ok (.bipush 10, 2) := by decide +kernel
theorem dX12_isGuess_5 : decode cX12_isGuess 5 = .ok (.idiv, 1) := by decide +kernel
theorem dX12_isGuess_6 : decode cX12_isGuess 6 = .ok (.invokevirtual 308, 3) := by decide +kernel
theorem dX12_isGuess_9 : decode cX12_isGuess 9 = .ok (.ifCond .eq 22, 3) := by decide +kernel
theorem dX12_isGuess_12 : decode cX12_isGuess 12 = .ok (.aload_n 0, 1) := by decide +kernel
theorem dX12_isGuess_13 : decode cX12_isGuess 13 = .ok (.iload_n 1, 1) := by decide +kernel
theorem dX12_isGuess_14 : decode cX12_isGuess 14 = .ok (.bipush 10, 2) := by decide +kernel
theorem dX12_isGuess_16 : decode cX12_isGuess 16 = .ok (.idiv, 1) := by decide +kernel
theorem dX12_isGuess_17 : decode cX12_isGuess 17 = .ok (.iload_n 1, 1) := by decide +kernel
theorem dX12_isGuess_18 : decode cX12_isGuess 18 = .ok (.bipush 10, 2) := by decide +kernel
theorem dX12_isGuess_20 : decode cX12_isGuess 20 = .ok (.irem, 1) := by decide +kernel
theorem dX12_isGuess_21 : decode cX12_isGuess 21 = .ok (.invokevirtual 417, 3) := by decide +kernel
theorem dX12_isGuess_24 : decode cX12_isGuess 24 = .ok (.ifCond .eq 7, 3) := by decide +kernel
theorem dX12_isGuess_27 : decode cX12_isGuess 27 = .ok (.iconst 1, 1) := by decide +kernel
theorem dX12_isGuess_28 : decode cX12_isGuess 28 = .ok (.goto 4, 3) := by decide +kernel
theorem dX12_isGuess_31 : decode cX12_isGuess 31 = .ok (.iconst 0, 1) := by decide +kernel
theorem dX12_isGuess_32 : decode cX12_isGuess 32 = .ok (.ireturn, 1) := by decide +kernel
theorem dX12_opened_0 : decode cX12_opened 0 = .ok (.aload_n 0, 1) := by decide +kernel
theorem dX12_opened_1 : decode cX12_opened 1 = .ok (.iconst 0, 1) := by decide +kernel
theorem dX12_opened_2 : decode cX12_opened 2 = .ok (.putfield 117, 3) := by decide +kernel
theorem dX12_opened_5 : decode cX12_opened 5 = .ok (.aload_n 0, 1) := by decide +kernel
theorem dX12_opened_6 : decode cX12_opened 6 = .ok (.iload_n 1, 1) := by decide +kernel
theorem dX12_opened_7 : decode cX12_opened 7 = .ok (.iconst 2, 1) := by decide +kernel
theorem dX12_opened_8 : decode cX12_opened 8 = .ok (.invokevirtual 365, 3) := by decide +kernel
theorem dX12_opened_11 : decode cX12_opened 11 = .ok (.ifCond .ne 5, 3) := by decide +kernel
theorem dX12_opened_14 : decode cX12_opened 14 = .ok (.iconst 0, 1) := by decide +kernel
theorem dX12_opened_15 : decode cX12_opened 15 = .ok (.ireturn, 1) := by decide +kernel
theorem dX12_opened_16 : decode cX12_opened 16 = .ok (.iload_n 1, 1) := by decide +kernel
theorem dX12_opened_17 : decode cX12_opened 17 = .ok (.iconst 2, 1) := by decide +kernel
theorem dX12_opened_18 : decode cX12_opened 18 = .ok (.if_icmp .ne 18, 3) := by decide +kernel
theorem dX12_opened_21 : decode cX12_opened 21 = .ok (.aload_n 0, 1) := by decide +kernel
theorem dX12_opened_22 : decode cX12_opened 22 = .ok (.iconst (-1), 1) := by decide +kernel
theorem dX12_opened_23 : decode cX12_opened 23 = .ok (.iconst 0, 1) := by decide +kernel
theorem dX12_opened_24 : decode cX12_opened 24 = .ok (.invokevirtual 417, 3) := by decide +kernel
theorem dX12_opened_27 : decode cX12_opened 27 = .ok (.ifCond .eq 7, 3) := by decide +kernel
theorem dX12_opened_30 : decode cX12_opened 30 = .ok (.iconst 1, 1) := by decide +kernel
theorem dX12_opened_31 : decode cX12_opened 31 = .ok (.goto 4, 3) := by decide +kernel
theorem dX12_opened_34 : decode cX12_opened 34 = .ok (.iconst 0, 1) := by decide +kernel
theorem dX12_opened_35 : decode cX12_opened 35 = .ok (.ireturn, 1) := by decide +kernel
theorem dX12_opened_36 : decode cX12_opened 36 = .ok (.iconst 0, 1) := by decide +kernel
theorem dX12_opened_37 : decode cX12_opened 37 = .ok (.istore_n 2, 1) := by decide +kernel
theorem dX12_opened_38 : decode cX12_opened 38 = .ok (.iconst (-1), 1) := by decide +kernel
theorem dX12_opened_39 : decode cX12_opened 39 = .ok (.istore_n 3, 1) := by decide +kernel
theorem dX12_opened_40 : decode cX12_opened 40 = .ok (.iconst 0, 1) := by decide +kernel
theorem dX12_opened_41 : decode cX12_opened 41 = .ok (.istore 4, 2) := by decide +kernel
theorem dX12_opened_43 : decode cX12_opened 43 = .ok (.iload 4, 2) := by decide +kernel
theorem dX12_opened_45 : decode cX12_opened 45 = .ok (.bipush 10, 2) := by decide +kernel
theorem dX12_opened_47 : decode cX12_opened 47 = .ok (.aload_n 0, 1) := by decide +kernel
theorem dX12_opened_48 : decode cX12_opened 48 = .ok (.getfield 287, 3) := by decide +kernel
theorem dX12_opened_51 : decode cX12_opened 51 = .ok (.imul, 1) := by decide +kernel
theorem dX12_opened_52 : decode cX12_opened 52 = .ok (.if_icmp .ge 32, 3) := by decide +kernel
theorem dX12_opened_55 : decode cX12_opened 55 = .ok (.aload_n 0, 1) := by decide +kernel
theorem dX12_opened_56 : decode cX12_opened 56 = .ok (.iload 4, 2) := by decide +kernel
theorem dX12_opened_58 : decode cX12_opened 58 = .ok (.invokevirtual 420, 3) := by decide +kernel
theorem dX12_opened_61 : decode cX12_opened 61 = .ok (.ifCond .ne 6, 3) := by decide +kernel
theorem dX12_opened_64 : decode cX12_opened 64 = .ok (.goto 14, 3) := by decide +kernel
theorem dX12_opened_67 : decode cX12_opened 67 = .ok (.iinc 2 1, 3) := by decide +kernel
theorem dX12_opened_70 : decode cX12_opened 70 = .ok (.iload_n 3, 1) := by decide +kernel
theorem dX12_opened_71 : decode cX12_opened 71 = .ok (.iconst (-1), 1) := by decide +kernel
theorem dX12_opened_72 : decode cX12_opened 72 = .ok (.if_icmp .ne 6, 3) := by decide +kernel
theorem dX12_opened_75 : decode cX12_opened 75 = .ok (.iload 4, 2) := by decide +kernel
theorem dX12_opened_77 : decode cX12_opened 77 = .ok (.istore_n 3, 1) := by decide +kernel
theorem dX12_opened_78 : decode cX12_opened 78 = .ok (.iinc 4 1, 3) := by decide +kernel
theorem dX12_opened_81 : decode cX12_opened 81 = .ok (.goto (-38), 3) := by decide +kernel
theorem dX12_opened_84 : decode cX12_opened 84 = .ok (.iload_n 1, 1) := by decide +kernel
theorem dX12_opened_85 : decode cX12_opened 85 = .ok (.ifCond .ne 7, 3) := by decide +kernel
theorem dX12_opened_88 : decode cX12_opened 88 = .ok (.iload_n 2, 1) := by decide +kernel
theorem dX12_opened_89 : decode cX12_opened 89 = .ok (.goto 4, 3) := by decide +kernel
theorem dX12_opened_92 : decode cX12_opened 92 = .ok (.iload_n 3, 1) := by decide +kernel
theorem dX12_opened_93 : decode cX12_opened 93 = .ok (.ireturn, 1) := by decide +kernel
theorem dX12_areLike_0 : decode cX12_areLike 0 = .ok (.iconst 0, 1) := by decide +kernel
theorem dX12_areLike_1 : decode cX12_areLike 1 = .ok (.istore 4, 2) := by decide +kernel
theorem dX12_areLike_3 : decode cX12_areLike 3 = .ok (.iload 4, 2) := by decide +kernel
theorem dX12_areLike_5 : decode cX12_areLike 5 = .ok (.aload_n 0, 1) := by decide +kernel
theorem dX12_areLike_6 : decode cX12_areLike 6 = .ok (.getfield 281, 3) := by decide +kernel
theorem dX12_areLike_9 : decode cX12_areLike 9 = .ok (.if_icmp .ge 50, 3) := by decide +kernel
theorem dX12_areLike_12 : decode cX12_areLike 12 = .ok (.aload_n 0, 1) := by decide +kernel
theorem dX12_areLike_13 : decode cX12_areLike 13 = .ok (.getfield 105, 3) := by decide +kernel
theorem dX12_areLike_16 : decode cX12_areLike 16 = .ok (.sipush 248, 3) := by decide +kernel
theorem dX12_areLike_19 : decode cX12_areLike 19 = .ok (.iload_n 1, 1) := by decide +kernel
theorem dX12_areLike_20 : decode cX12_areLike 20 = .ok (.imul, 1) := by decide +kernel
theorem dX12_areLike_21 : decode cX12_areLike 21 = .ok (.bipush 8, 2) := by decide +kernel
theorem dX12_areLike_23 : decode cX12_areLike 23 = .ok (.iload_n 3, 1) := by decide +kernel
theorem dX12_areLike_24 : decode cX12_areLike 24 = .ok (.imul, 1) := by decide +kernel
theorem dX12_areLike_25 : decode cX12_areLike 25 = .ok (.iadd, 1) := by decide +kernel
theorem dX12_areLike_26 : decode cX12_areLike 26 = .ok (.iload 4, 2) := by decide +kernel
theorem dX12_areLike_28 : decode cX12_areLike 28 = .ok (.iadd, 1) := by decide +kernel
theorem dX12_areLike_29 : decode cX12_areLike 29 = .ok (.iaload, 1) := by decide +kernel
theorem dX12_areLike_30 : decode cX12_areLike 30 = .ok (.aload_n 0, 1) := by decide +kernel
theorem dX12_areLike_31 : decode cX12_areLike 31 = .ok (.getfield 105, 3) := by decide +kernel
theorem dX12_areLike_34 : decode cX12_areLike 34 = .ok (.sipush 248, 3) := by decide +kernel
theorem dX12_areLike_37 : decode cX12_areLike 37 = .ok (.iload_n 2, 1) := by decide +kernel
theorem dX12_areLike_38 : decode cX12_areLike 38 = .ok (.imul, 1) := by decide +kernel
theorem dX12_areLike_39 : decode cX12_areLike 39 = .ok (.bipush 8, 2) := by decide +kernel
theorem dX12_areLike_41 : decode cX12_areLike 41 = .ok (.iload_n 3, 1) := by decide +kernel
theorem dX12_areLike_42 : decode cX12_areLike 42 = .ok (.imul, 1) := by decide +kernel
theorem dX12_areLike_43 : decode cX12_areLike 43 = .ok (.iadd, 1) := by decide +kernel
theorem dX12_areLike_44 : decode cX12_areLike 44 = .ok (.iload 4, 2) := by decide +kernel
theorem dX12_areLike_46 : decode cX12_areLike 46 = .ok (.iadd, 1) := by decide +kernel
theorem dX12_areLike_47 : decode cX12_areLike 47 = .ok (.iaload, 1) := by decide +kernel
theorem dX12_areLike_48 : decode cX12_areLike 48 = .ok (.if_icmp .eq 5, 3) := by decide +kernel
theorem dX12_areLike_51 : decode cX12_areLike 51 = .ok (.iconst 0, 1) := by decide +kernel
theorem dX12_areLike_52 : decode cX12_areLike 52 = .ok (.ireturn, 1) := by decide +kernel
theorem dX12_areLike_53 : decode cX12_areLike 53 = .ok (.iinc 4 1, 3) := by decide +kernel
theorem dX12_areLike_56 : decode cX12_areLike 56 = .ok (.goto (-53), 3) := by decide +kernel
theorem dX12_areLike_59 : decode cX12_areLike 59 = .ok (.iconst 1, 1) := by decide +kernel
theorem dX12_areLike_60 : decode cX12_areLike 60 = .ok (.ireturn, 1) := by decide +kernel
theorem dX12_next_0 : decode cX12_next 0 = .ok (.aload_n 0, 1) := by decide +kernel
theorem dX12_next_1 : decode cX12_next 1 = .ok (.iconst 0, 1) := by decide +kernel
theorem dX12_next_2 : decode cX12_next 2 = .ok (.putfield 117, 3) := by decide +kernel
theorem dX12_next_5 : decode cX12_next 5 = .ok (.aload_n 0, 1) := by decide +kernel
theorem dX12_next_6 : decode cX12_next 6 = .ok (.iload_n 1, 1) := by decide +kernel
theorem dX12_next_7 : decode cX12_next 7 = .ok (.iconst 1, 1) := by decide +kernel
theorem dX12_next_8 : decode cX12_next 8 = .ok (.invokevirtual 365, 3) := by decide +kernel
theorem dX12_next_11 : decode cX12_next 11 = .ok (.ifCond .ne 5, 3) := by decide +kernel
theorem dX12_next_14 : decode cX12_next 14 = .ok (.iconst 0, 1) := by decide +kernel
theorem dX12_next_15 : decode cX12_next 15 = .ok (.ireturn, 1) := by decide +kernel
theorem dX12_next_16 : decode cX12_next 16 = .ok (.iconst 0, 1) := by decide +kernel
theorem dX12_next_17 : decode cX12_next 17 = .ok (.istore_n 2, 1) := by decide +kernel
theorem dX12_next_18 : decode cX12_next 18 = .ok (.iconst 0, 1) := by decide +kernel
theorem dX12_next_19 : decode cX12_next 19 = .ok (.istore_n 3, 1) := by decide +kernel
theorem dX12_next_20 : decode cX12_next 20 = .ok (.iload_n 3, 1) := by decide +kernel
theorem dX12_next_21 : decode cX12_next 21 = .ok (.bipush 10, 2) := by decide +kernel
theorem dX12_next_23 : decode cX12_next 23 = .ok (.aload_n 0, 1) := by decide +kernel
theorem dX12_next_24 : decode cX12_next 24 = .ok (.getfield 287, 3) := by decide +kernel
theorem dX12_next_27 : decode cX12_next 27 = .ok (.imul, 1) := by decide +kernel
theorem dX12_next_28 : decode cX12_next 28 = .ok (.if_icmp .ge 60, 3) := by decide +kernel
theorem dX12_next_31 : decode cX12_next 31 = .ok (.aload_n 0, 1) := by decide +kernel
theorem dX12_next_32 : decode cX12_next 32 = .ok (.iload_n 3, 1) := by decide +kernel
theorem dX12_next_33 : decode cX12_next 33 = .ok (.invokevirtual 420, 3) := by decide +kernel
theorem dX12_next_36 : decode cX12_next 36 = .ok (.ifCond .ne 6, 3) := by decide +kernel
theorem dX12_next_39 : decode cX12_next 39 = .ok (.goto 43, 3) := by decide +kernel
theorem dX12_next_42 : decode cX12_next 42 = .ok (.iconst 0, 1) := by decide +kernel
theorem dX12_next_43 : decode cX12_next 43 = .ok (.istore 4, 2) := by decide +kernel
theorem dX12_next_45 : decode cX12_next 45 = .ok (.iload 4, 2) := by decide +kernel
theorem dX12_next_47 : decode cX12_next 47 = .ok (.sipush 248, 3) := by decide +kernel
theorem dX12_next_50 : decode cX12_next 50 = .ok (.if_icmp .ge 29, 3) := by decide +kernel
theorem dX12_next_53 : decode cX12_next 53 = .ok (.aload_n 0, 1) := by decide +kernel
theorem dX12_next_54 : decode cX12_next 54 = .ok (.getfield 105, 3) := by decide +kernel
theorem dX12_next_57 : decode cX12_next 57 = .ok (.sipush 248, 3) := by decide +kernel
theorem dX12_next_60 : decode cX12_next 60 = .ok (.iload_n 2, 1) := by decide +kernel
theorem dX12_next_61 : decode cX12_next 61 = .ok (.imul, 1) := by decide +kernel
theorem dX12_next_62 : decode cX12_next 62 = .ok (.iload 4, 2) := by decide +kernel
theorem dX12_next_64 : decode cX12_next 64 = .ok (.iadd, 1) := by decide +kernel
theorem dX12_next_65 : decode cX12_next 65 = .ok (.aload_n 0, 1) := by decide +kernel
theorem dX12_next_66 : decode cX12_next 66 = .ok (.getfield 102, 3) := by decide +kernel
theorem dX12_next_69 : decode cX12_next 69 = .ok (.iload 4, 2) := by decide +kernel
theorem dX12_next_71 : decode cX12_next 71 = .ok (.iaload, 1) := by decide +kernel
theorem dX12_next_72 : decode cX12_next 72 = .ok (.iastore, 1) := by decide +kernel
theorem dX12_next_73 : decode cX12_next 73 = .ok (.iinc 4 1, 3) := by decide +kernel
theorem dX12_next_76 : decode cX12_next 76 = .ok (.goto (-31), 3) := by decide +kernel
theorem dX12_next_79 : decode cX12_next 79 = .ok (.iinc 2 1, 3) := by decide +kernel
theorem dX12_next_82 : decode cX12_next 82 = .ok (.iinc 3 1, 3) := by decide +kernel
theorem dX12_next_85 : decode cX12_next 85 = .ok (.goto (-65), 3) := by decide +kernel
theorem dX12_next_88 : decode cX12_next 88 = .ok (.iconst (-1), 1) := by decide +kernel
theorem dX12_next_89 : decode cX12_next 89 = .ok (.istore_n 3, 1) := by decide +kernel
theorem dX12_next_90 : decode cX12_next 90 = .ok (.iconst 0, 1) := by decide +kernel
theorem dX12_next_91 : decode cX12_next 91 = .ok (.istore 4, 2) := by decide +kernel
theorem dX12_next_93 : decode cX12_next 93 = .ok (.iconst 0, 1) := by decide +kernel
theorem dX12_next_94 : decode cX12_next 94 = .ok (.istore 5, 2) := by decide +kernel
theorem dX12_next_96 : decode cX12_next 96 = .ok (.iload 5, 2) := by decide +kernel
theorem dX12_next_98 : decode cX12_next 98 = .ok (.bipush 30, 2) := by decide +kernel
theorem dX12_next_100 : decode cX12_next 100 = .ok (.if_icmp .gt 103, 3) := by decide +kernel
theorem dX12_next_103 : decode cX12_next 103 = .ok (.iconst 0, 1) := by decide +kernel
theorem dX12_next_104 : decode cX12_next 104 = .ok (.istore 6, 2) := by decide +kernel
theorem dX12_next_106 : decode cX12_next 106 = .ok (.iconst 0, 1) := by decide +kernel
theorem dX12_next_107 : decode cX12_next 107 = .ok (.istore 7, 2) := by decide +kernel
theorem dX12_next_109 : decode cX12_next 109 = .ok (.iload 7, 2) := by decide +kernel
theorem dX12_next_111 : decode cX12_next 111 = .ok (.iload_n 2, 1) := by decide +kernel
theorem dX12_next_112 : decode cX12_next 112 = .ok (.if_icmp .ge 68, 3) := by decide +kernel
theorem dX12_next_115 : decode cX12_next 115 = .ok (.iconst 1, 1) := by decide +kernel
theorem dX12_next_116 : decode cX12_next 116 = .ok (.istore 8, 2) := by decide +kernel
theorem dX12_next_118 : decode cX12_next 118 = .ok (.iconst 0, 1) := by decide +kernel
theorem dX12_next_119 : decode cX12_next 119 = .ok (.istore 9, 2) := by decide +kernel
theorem dX12_next_121 : decode cX12_next 121 = .ok (.iload 9, 2) := by decide +kernel
theorem dX12_next_123 : decode cX12_next 123 = .ok (.iload 7, 2) := by decide +kernel
theorem dX12_next_125 : decode cX12_next 125 = .ok (.if_icmp .ge 34, 3) := by decide +kernel
theorem dX12_next_128 : decode cX12_next 128 = .ok (.iload 8, 2) := by decide +kernel
theorem dX12_next_130 : decode cX12_next 130 = .ok (.ifCond .eq 29, 3) := by decide +kernel
theorem dX12_next_133 : decode cX12_next 133 = .ok (.aload_n 0, 1) := by decide +kernel
theorem dX12_next_134 : decode cX12_next 134 = .ok (.iload 7, 2) := by decide +kernel
theorem dX12_next_136 : decode cX12_next 136 = .ok (.iload 9, 2) := by decide +kernel
theorem dX12_next_138 : decode cX12_next 138 = .ok (.iload 5, 2) := by decide +kernel
theorem dX12_next_140 : decode cX12_next 140 = .ok (.invokevirtual 423, 3) := by decide +kernel
theorem dX12_next_143 : decode cX12_next 143 = .ok (.ifCond .ne 7, 3) := by decide +kernel
theorem dX12_next_146 : decode cX12_next 146 = .ok (.iconst 1, 1) := by decide +kernel
theorem dX12_next_147 : decode cX12_next 147 = .ok (.goto 4, 3) := by decide +kernel
theorem dX12_next_150 : decode cX12_next 150 = .ok (.iconst 0, 1) := by decide +kernel
theorem dX12_next_151 : decode cX12_next 151 = .ok (.istore 8, 2) := by decide +kernel
theorem dX12_next_153 : decode cX12_next 153 = .ok (.iinc 9 1, 3) := by decide +kernel
theorem dX12_next_156 : decode cX12_next 156 = .ok (.goto (-35), 3) := by decide +kernel
theorem dX12_next_159 : decode cX12_next 159 = .ok (.iload 6, 2) := by decide +kernel
theorem dX12_next_161 : decode cX12_next 161 = .ok (.iload 8, 2) := by decide +kernel
theorem dX12_next_163 : decode cX12_next 163 = .ok (.ifCond .eq 7, 3) := by decide +kernel
theorem dX12_next_166 : decode cX12_next 166 = .ok (.iconst 1, 1) := by decide +kernel
theorem dX12_next_167 : decode cX12_next 167 = .ok (.goto 4, 3) := by decide +kernel
theorem dX12_next_170 : decode cX12_next 170 = .ok (.iconst 0, 1) := by decide +kernel
theorem dX12_next_171 : decode cX12_next 171 = .ok (.iadd, 1) := by decide +kernel
theorem dX12_next_172 : decode cX12_next 172 = .ok (.istore 6, 2) := by decide +kernel
theorem dX12_next_174 : decode cX12_next 174 = .ok (.iinc 7 1, 3) := by decide +kernel
theorem dX12_next_177 : decode cX12_next 177 = .ok (.goto (-68), 3) := by decide +kernel
theorem dX12_next_180 : decode cX12_next 180 = .ok (.iload 6, 2) := by decide +kernel
theorem dX12_next_182 : decode cX12_next 182 = .ok (.iload 4, 2) := by decide +kernel
theorem dX12_next_184 : decode cX12_next 184 = .ok (.if_icmp .gt 6, 3) := by decide +kernel
theorem dX12_next_187 : decode cX12_next 187 = .ok (.goto 10, 3) := by decide +kernel
theorem dX12_next_190 : decode cX12_next 190 = .ok (.iload 5, 2) := by decide +kernel
theorem dX12_next_192 : decode cX12_next 192 = .ok (.istore_n 3, 1) := by decide +kernel
theorem dX12_next_193 : decode cX12_next 193 = .ok (.iload 6, 2) := by decide +kernel
theorem dX12_next_195 : decode cX12_next 195 = .ok (.istore 4, 2) := by decide +kernel
theorem dX12_next_197 : decode cX12_next 197 = .ok (.iinc 5 1, 3) := by decide +kernel
theorem dX12_next_200 : decode cX12_next 200 = .ok (.goto (-104), 3) := by decide +kernel
theorem dX12_next_203 : decode cX12_next 203 = .ok (.iload_n 1, 1) := by decide +kernel
theorem dX12_next_204 : decode cX12_next 204 = .ok (.ifCond .ne 7, 3) := by decide +kernel
theorem dX12_next_207 : decode cX12_next 207 = .ok (.iload_n 3, 1) := by decide +kernel
theorem dX12_next_208 : decode cX12_next 208 = .ok (.goto 5, 3) := by decide +kernel
theorem dX12_next_211 : decode cX12_next 211 = .ok (.iload 4, 2) := by decide +kernel
theorem dX12_next_213 : decode cX12_next 213 = .ok (.ireturn, 1) := by decide +kernel
theorem dX12_pooled_0 : decode cX12_pooled 0 = .ok (.aload_n 0, 1) := by decide +kernel
theorem dX12_pooled_1 : decode cX12_pooled 1 = .ok (.iconst 0, 1) := by decide +kernel
theorem dX12_pooled_2 : decode cX12_pooled 2 = .ok (.putfield 117, 3) := by decide +kernel
theorem dX12_pooled_5 : decode cX12_pooled 5 = .ok (.aload_n 0, 1) := by decide +kernel
theorem dX12_pooled_6 : decode cX12_pooled 6 = .ok (.iload_n 1, 1) := by decide +kernel
theorem dX12_pooled_7 : decode cX12_pooled 7 = .ok (.iconst 1, 1) := by decide +kernel
theorem dX12_pooled_8 : decode cX12_pooled 8 = .ok (.iconst 1, 1) := by decide +kernel
theorem dX12_pooled_9 : decode cX12_pooled 9 = .ok (.invokevirtual 386, 3) := by decide +kernel
theorem dX12_pooled_12 : decode cX12_pooled 12 = .ok (.ifCond .ne 5, 3) := by decide +kernel
theorem dX12_pooled_15 : decode cX12_pooled 15 = .ok (.iconst 0, 1) := by decide +kernel
theorem dX12_pooled_16 : decode cX12_pooled 16 = .ok (.ireturn, 1) := by decide +kernel
theorem dX12_pooled_17 : decode cX12_pooled 17 = .ok (.aload_n 0, 1) := by decide +kernel
theorem dX12_pooled_18 : decode cX12_pooled 18 = .ok (.invokevirtual 389, 3) := by decide +kernel
theorem dX12_pooled_21 : decode cX12_pooled 21 = .ok (.aload_n 0, 1) := by decide +kernel
theorem dX12_pooled_22 : decode cX12_pooled 22 = .ok (.iload_n 1, 1) := by decide +kernel
theorem dX12_pooled_23 : decode cX12_pooled 23 = .ok (.invokevirtual 392, 3) := by decide +kernel
theorem dX12_pooled_26 : decode cX12_pooled 26 = .ok (.aload_n 0, 1) := by decide +kernel
theorem dX12_pooled_27 : decode cX12_pooled 27 = .ok (.bipush 102, 2) := by decide +kernel
theorem dX12_pooled_29 : decode cX12_pooled 29 = .ok (.invokevirtual 350, 3) := by decide +kernel
theorem dX12_pooled_32 : decode cX12_pooled 32 = .ok (.istore_n 2, 1) := by decide +kernel
theorem dX12_pooled_33 : decode cX12_pooled 33 = .ok (.aload_n 0, 1) := by decide +kernel
theorem dX12_pooled_34 : decode cX12_pooled 34 = .ok (.invokevirtual 389, 3) := by decide +kernel
theorem dX12_pooled_37 : decode cX12_pooled 37 = .ok (.iconst 0, 1) := by decide +kernel
theorem dX12_pooled_38 : decode cX12_pooled 38 = .ok (.istore_n 3, 1) := by decide +kernel
theorem dX12_pooled_39 : decode cX12_pooled 39 = .ok (.iload_n 3, 1) := by decide +kernel
theorem dX12_pooled_40 : decode cX12_pooled 40 = .ok (.aload_n 0, 1) := by decide +kernel
theorem dX12_pooled_41 : decode cX12_pooled 41 = .ok (.getfield 281, 3) := by decide +kernel
theorem dX12_pooled_44 : decode cX12_pooled 44 = .ok (.if_icmp .ge 48, 3) := by decide +kernel
theorem dX12_pooled_47 : decode cX12_pooled 47 = .ok (.aload_n 0, 1) := by decide +kernel
theorem dX12_pooled_48 : decode cX12_pooled 48 = .ok (.getfield 75, 3) := by decide +kernel
theorem dX12_pooled_51 : decode cX12_pooled 51 = .ok (.bipush 86, 2) := by decide +kernel
theorem dX12_pooled_53 : decode cX12_pooled 53 = .ok (.iload_n 3, 1) := by decide +kernel
theorem dX12_pooled_54 : decode cX12_pooled 54 = .ok (.iadd, 1) := by decide +kernel
theorem dX12_pooled_55 : decode cX12_pooled 55 = .ok (.aload_n 0, 1) := by decide +kernel
theorem dX12_pooled_56 : decode cX12_pooled 56 = .ok (.iconst 1, 1) := by decide +kernel
theorem dX12_pooled_57 : decode cX12_pooled 57 = .ok (.invokevirtual 350, 3) := by decide +kernel
theorem dX12_pooled_60 : decode cX12_pooled 60 = .ok (.aload_n 0, 1) := by decide +kernel
theorem dX12_pooled_61 : decode cX12_pooled 61 = .ok (.getfield 281, 3) := by decide +kernel
theorem dX12_pooled_64 : decode cX12_pooled 64 = .ok (.idiv, 1) := by decide +kernel
theorem dX12_pooled_65 : decode cX12_pooled 65 = .ok (.iastore, 1) := by decide +kernel
theorem dX12_pooled_66 : decode cX12_pooled 66 = .ok (.aload_n 0, 1) := by decide +kernel
theorem dX12_pooled_67 : decode cX12_pooled 67 = .ok (.getfield 75, 3) := by decide +kernel
theorem dX12_pooled_70 : decode cX12_pooled 70 = .ok (.bipush 94, 2) := by decide +kernel
theorem dX12_pooled_72 : decode cX12_pooled 72 = .ok (.iload_n 3, 1) := by decide +kernel
theorem dX12_pooled_73 : decode cX12_pooled 73 = .ok (.iadd, 1) := by decide +kernel
theorem dX12_pooled_74 : decode cX12_pooled 74 = .ok (.aload_n 0, 1) := by decide +kernel
theorem dX12_pooled_75 : decode cX12_pooled 75 = .ok (.bipush 9, 2) := by decide +kernel
theorem dX12_pooled_77 : decode cX12_pooled 77 = .ok (.invokevirtual 350, 3) := by decide +kernel
theorem dX12_pooled_80 : decode cX12_pooled 80 = .ok (.aload_n 0, 1) := by decide +kernel
theorem dX12_pooled_81 : decode cX12_pooled 81 = .ok (.getfield 281, 3) := by decide +kernel
theorem dX12_pooled_84 : decode cX12_pooled 84 = .ok (.idiv, 1) := by decide +kernel
theorem dX12_pooled_85 : decode cX12_pooled 85 = .ok (.iastore, 1) := by decide +kernel
theorem dX12_pooled_86 : decode cX12_pooled 86 = .ok (.iinc 3 1, 3) := by decide +kernel
theorem dX12_pooled_89 : decode cX12_pooled 89 = .ok (.goto (-50), 3) := by decide +kernel
theorem dX12_pooled_92 : decode cX12_pooled 92 = .ok (.aload_n 0, 1) := by decide +kernel
theorem dX12_pooled_93 : decode cX12_pooled 93 = .ok (.iload_n 1, 1) := by decide +kernel
theorem dX12_pooled_94 : decode cX12_pooled 94 = .ok (.invokevirtual 392, 3) := by decide +kernel
theorem dX12_pooled_97 : decode cX12_pooled 97 = .ok (.aload_n 0, 1) := by decide +kernel
theorem dX12_pooled_98 : decode cX12_pooled 98 = .ok (.bipush 102, 2) := by decide +kernel
theorem dX12_pooled_100 : decode cX12_pooled 100 = .ok (.invokevirtual 350, 3) := by decide +kernel
theorem dX12_pooled_103 : decode cX12_pooled 103 = .ok (.iload_n 2, 1) := by decide +kernel
theorem dX12_pooled_104 : decode cX12_pooled 104 = .ok (.isub, 1) := by decide +kernel
theorem dX12_pooled_105 : decode cX12_pooled 105 = .ok (.ireturn, 1) := by decide +kernel
theorem dX12_missed_0 : decode cX12_missed 0 = .ok (.aload_n 0, 1) := by decide +kernel
theorem dX12_missed_1 : decode cX12_missed 1 = .ok (.iconst 0, 1) := by decide +kernel
theorem dX12_missed_2 : decode cX12_missed 2 = .ok (.putfield 117, 3) := by decide +kernel
theorem dX12_missed_5 : decode cX12_missed 5 = .ok (.iconst (-1), 1) := by decide +kernel
theorem dX12_missed_6 : decode cX12_missed 6 = .ok (.istore_n 1, 1) := by decide +kernel
theorem dX12_missed_7 : decode cX12_missed 7 = .ok (.iconst 0, 1) := by decide +kernel
theorem dX12_missed_8 : decode cX12_missed 8 = .ok (.istore_n 2, 1) := by decide +kernel
theorem dX12_missed_9 : decode cX12_missed 9 = .ok (.iconst 0, 1) := by decide +kernel
theorem dX12_missed_10 : decode cX12_missed 10 = .ok (.istore_n 3, 1) := by decide +kernel
theorem dX12_missed_11 : decode cX12_missed 11 = .ok (.iload_n 3, 1) := by decide +kernel
theorem dX12_missed_12 : decode cX12_missed 12 = .ok (.aload_n 0, 1) := by decide +kernel
theorem dX12_missed_13 : decode cX12_missed 13 = .ok (.getfield 287, 3) := by decide +kernel
theorem dX12_missed_16 : decode cX12_missed 16 = .ok (.if_icmp .ge 106, 3) := by decide +kernel
theorem dX12_missed_19 : decode cX12_missed 19 = .ok (.aload_n 0, 1) := by decide +kernel
theorem dX12_missed_20 : decode cX12_missed 20 = .ok (.iconst 0, 1) := by decide +kernel
theorem dX12_missed_21 : decode cX12_missed 21 = .ok (.iload_n 3, 1) := by decide +kernel
theorem dX12_missed_22 : decode cX12_missed 22 = .ok (.invokevirtual 308, 3) := by decide +kernel
theorem dX12_missed_25 : decode cX12_missed 25 = .ok (.ifCond .ne 6, 3) := by decide +kernel
theorem dX12_missed_28 : decode cX12_missed 28 = .ok (.goto 88, 3) := by decide +kernel
theorem dX12_missed_31 : decode cX12_missed 31 = .ok (.aload_n 0, 1) := by decide +kernel
theorem dX12_missed_32 : decode cX12_missed 32 = .ok (.invokevirtual 389, 3) := by decide +kernel
theorem dX12_missed_35 : decode cX12_missed 35 = .ok (.aload_n 0, 1) := by decide +kernel
theorem dX12_missed_36 : decode cX12_missed 36 = .ok (.getfield 75, 3) := by decide +kernel
theorem dX12_missed_39 : decode cX12_missed 39 = .ok (.sipush 140, 3) := by decide +kernel
theorem dX12_missed_42 : decode cX12_missed 42 = .ok (.iload_n 3, 1) := by decide +kernel
theorem dX12_missed_43 : decode cX12_missed 43 = .ok (.iadd, 1) := by decide +kernel
theorem dX12_missed_44 : decode cX12_missed 44 = .ok (.iconst (-1), 1) := by decide +kernel
theorem dX12_missed_45 : decode cX12_missed 45 = .ok (.iastore, 1) := by decide +kernel
theorem dX12_missed_46 : decode cX12_missed 46 = .ok (.iconst 0, 1) := by decide +kernel
theorem dX12_missed_47 : decode cX12_missed 47 = .ok (.istore 4, 2) := by decide +kernel
theorem dX12_missed_49 : decode cX12_missed 49 = .ok (.iload 4, 2) := by decide +kernel
theorem dX12_missed_51 : decode cX12_missed 51 = .ok (.aload_n 0, 1) := by decide +kernel
theorem dX12_missed_52 : decode cX12_missed 52 = .ok (.getfield 287, 3) := by decide +kernel
theorem dX12_missed_55 : decode cX12_missed 55 = .ok (.if_icmp .ge 28, 3) := by decide +kernel
theorem dX12_missed_58 : decode cX12_missed 58 = .ok (.aload_n 0, 1) := by decide +kernel
theorem dX12_missed_59 : decode cX12_missed 59 = .ok (.bipush 85, 2) := by decide +kernel
theorem dX12_missed_61 : decode cX12_missed 61 = .ok (.iload 4, 2) := by decide +kernel
theorem dX12_missed_63 : decode cX12_missed 63 = .ok (.invokevirtual 308, 3) := by decide +kernel
theorem dX12_missed_66 : decode cX12_missed 66 = .ok (.ifCond .eq 11, 3) := by decide +kernel
theorem dX12_missed_69 : decode cX12_missed 69 = .ok (.aload_n 0, 1) := by decide +kernel
theorem dX12_missed_70 : decode cX12_missed 70 = .ok (.bipush 85, 2) := by decide +kernel
theorem dX12_missed_72 : decode cX12_missed 72 = .ok (.iload 4, 2) := by decide +kernel
theorem dX12_missed_74 : decode cX12_missed 74 = .ok (.invokevirtual 383, 3) := by decide +kernel
theorem dX12_missed_77 : decode cX12_missed 77 = .ok (.iinc 4 1, 3) := by decide +kernel
theorem dX12_missed_80 : decode cX12_missed 80 = .ok (.goto (-31), 3) := by decide +kernel
theorem dX12_missed_83 : decode cX12_missed 83 = .ok (.aload_n 0, 1) := by decide +kernel
theorem dX12_missed_84 : decode cX12_missed 84 = .ok (.bipush 30, 2) := by decide +kernel
theorem dX12_missed_86 : decode cX12_missed 86 = .ok (.invokevirtual 392, 3) := by decide +kernel
theorem dX12_missed_89 : decode cX12_missed 89 = .ok (.aload_n 0, 1) := by decide +kernel
theorem dX12_missed_90 : decode cX12_missed 90 = .ok (.bipush 102, 2) := by decide +kernel
theorem dX12_missed_92 : decode cX12_missed 92 = .ok (.invokevirtual 350, 3) := by decide +kernel
theorem dX12_missed_95 : decode cX12_missed 95 = .ok (.istore 4, 2) := by decide +kernel
theorem dX12_missed_97 : decode cX12_missed 97 = .ok (.iload_n 1, 1) := by decide +kernel
theorem dX12_missed_98 : decode cX12_missed 98 = .ok (.iconst (-1), 1) := by decide +kernel
theorem dX12_missed_99 : decode cX12_missed 99 = .ok (.if_icmp .eq 12, 3) := by decide +kernel
theorem dX12_missed_102 : decode cX12_missed 102 = .ok (.iload 4, 2) := by decide +kernel
theorem dX12_missed_104 : decode cX12_missed 104 = .ok (.iload_n 2, 1) := by decide +kernel
theorem dX12_missed_105 : decode cX12_missed 105 = .ok (.if_icmp .lt 6, 3) := by decide +kernel
theorem dX12_missed_108 : decode cX12_missed 108 = .ok (.goto 8, 3) := by decide +kernel
theorem dX12_missed_111 : decode cX12_missed 111 = .ok (.iload_n 3, 1) := by decide +kernel
theorem dX12_missed_112 : decode cX12_missed 112 = .ok (.istore_n 1, 1) := by decide +kernel
theorem dX12_missed_113 : decode cX12_missed 113 = .ok (.iload 4, 2) := by decide +kernel
theorem dX12_missed_115 : decode cX12_missed 115 = .ok (.istore_n 2, 1) := by decide +kernel
theorem dX12_missed_116 : decode cX12_missed 116 = .ok (.iinc 3 1, 3) := by decide +kernel
theorem dX12_missed_119 : decode cX12_missed 119 = .ok (.goto (-108), 3) := by decide +kernel
theorem dX12_missed_122 : decode cX12_missed 122 = .ok (.iload_n 1, 1) := by decide +kernel
theorem dX12_missed_123 : decode cX12_missed 123 = .ok (.ireturn, 1) := by decide +kernel
theorem dX12_gains_0 : decode cX12_gains 0 = .ok (.iload_n 3, 1) := by decide +kernel
theorem dX12_gains_1 : decode cX12_gains 1 = .ok (.aload_n 0, 1) := by decide +kernel
theorem dX12_gains_2 : decode cX12_gains 2 = .ok (.getfield 75, 3) := by decide +kernel
theorem dX12_gains_5 : decode cX12_gains 5 = .ok (.iconst 1, 1) := by decide +kernel
theorem dX12_gains_6 : decode cX12_gains 6 = .ok (.iload_n 1, 1) := by decide +kernel
theorem dX12_gains_7 : decode cX12_gains 7 = .ok (.iadd, 1) := by decide +kernel
theorem dX12_gains_8 : decode cX12_gains 8 = .ok (.iaload, 1) := by decide +kernel
theorem dX12_gains_9 : decode cX12_gains 9 = .ok (.bipush 10, 2) := by decide +kernel
theorem dX12_gains_11 : decode cX12_gains 11 = .ok (.idiv, 1) := by decide +kernel
theorem dX12_gains_12 : decode cX12_gains 12 = .ok (.imul, 1) := by decide +kernel
theorem dX12_gains_13 : decode cX12_gains 13 = .ok (.istore 5, 2) := by decide +kernel
theorem dX12_gains_15 : decode cX12_gains 15 = .ok (.iload 4, 2) := by decide +kernel
theorem dX12_gains_17 : decode cX12_gains 17 = .ok (.aload_n 0, 1) := by decide +kernel
theorem dX12_gains_18 : decode cX12_gains 18 = .ok (.getfield 75, 3) := by decide +kernel
theorem dX12_gains_21 : decode cX12_gains 21 = .ok (.iconst 1, 1) := by decide +kernel
theorem dX12_gains_22 : decode cX12_gains 22 = .ok (.iload_n 2, 1) := by decide +kernel
theorem dX12_gains_23 : decode cX12_gains 23 = .ok (.iadd, 1) := by decide +kernel
theorem dX12_gains_24 : decode cX12_gains 24 = .ok (.iaload, 1) := by decide +kernel
theorem dX12_gains_25 : decode cX12_gains 25 = .ok (.bipush 10, 2) := by decide +kernel
theorem dX12_gains_27 : decode cX12_gains 27 = .ok (.idiv, 1) := by decide +kernel
theorem dX12_gains_28 : decode cX12_gains 28 = .ok (.imul, 1) := by decide +kernel
theorem dX12_gains_29 : decode cX12_gains 29 = .ok (.istore 6, 2) := by decide +kernel
theorem dX12_gains_31 : decode cX12_gains 31 = .ok (.aload_n 0, 1) := by decide +kernel
theorem dX12_gains_32 : decode cX12_gains 32 = .ok (.invokevirtual 389, 3) := by decide +kernel
theorem dX12_gains_35 : decode cX12_gains 35 = .ok (.aload_n 0, 1) := by decide +kernel
theorem dX12_gains_36 : decode cX12_gains 36 = .ok (.getfield 75, 3) := by decide +kernel
theorem dX12_gains_39 : decode cX12_gains 39 = .ok (.bipush 86, 2) := by decide +kernel
theorem dX12_gains_41 : decode cX12_gains 41 = .ok (.iload_n 1, 1) := by decide +kernel
theorem dX12_gains_42 : decode cX12_gains 42 = .ok (.iadd, 1) := by decide +kernel
theorem dX12_gains_43 : decode cX12_gains 43 = .ok (.aload_n 0, 1) := by decide +kernel
theorem dX12_gains_44 : decode cX12_gains 44 = .ok (.getfield 75, 3) := by decide +kernel
theorem dX12_gains_47 : decode cX12_gains 47 = .ok (.iconst 1, 1) := by decide +kernel
theorem dX12_gains_48 : decode cX12_gains 48 = .ok (.iload_n 1, 1) := by decide +kernel
theorem dX12_gains_49 : decode cX12_gains 49 = .ok (.iadd, 1) := by decide +kernel
theorem dX12_gains_50 : decode cX12_gains 50 = .ok (.iaload, 1) := by decide +kernel
theorem dX12_gains_51 : decode cX12_gains 51 = .ok (.iload 5, 2) := by decide +kernel
theorem dX12_gains_53 : decode cX12_gains 53 = .ok (.isub, 1) := by decide +kernel
theorem dX12_gains_54 : decode cX12_gains 54 = .ok (.iload 6, 2) := by decide +kernel
theorem dX12_gains_56 : decode cX12_gains 56 = .ok (.iadd, 1) := by decide +kernel
theorem dX12_gains_57 : decode cX12_gains 57 = .ok (.iconst 0, 1) := by decide +kernel
theorem dX12_gains_58 : decode cX12_gains 58 = .ok (.sipush 9999, 3) := by decide +kernel
theorem dX12_gains_61 : decode cX12_gains 61 = .ok (.invokestatic 311, 3) := by decide +kernel
theorem dX12_gains_64 : decode cX12_gains 64 = .ok (.iastore, 1) := by decide +kernel
theorem dX12_gains_65 : decode cX12_gains 65 = .ok (.aload_n 0, 1) := by decide +kernel
theorem dX12_gains_66 : decode cX12_gains 66 = .ok (.getfield 75, 3) := by decide +kernel
theorem dX12_gains_69 : decode cX12_gains 69 = .ok (.bipush 86, 2) := by decide +kernel
theorem dX12_gains_71 : decode cX12_gains 71 = .ok (.iload_n 2, 1) := by decide +kernel
theorem dX12_gains_72 : decode cX12_gains 72 = .ok (.iadd, 1) := by decide +kernel
theorem dX12_gains_73 : decode cX12_gains 73 = .ok (.aload_n 0, 1) := by decide +kernel
theorem dX12_gains_74 : decode cX12_gains 74 = .ok (.getfield 75, 3) := by decide +kernel
theorem dX12_gains_77 : decode cX12_gains 77 = .ok (.iconst 1, 1) := by decide +kernel
theorem dX12_gains_78 : decode cX12_gains 78 = .ok (.iload_n 2, 1) := by decide +kernel
theorem dX12_gains_79 : decode cX12_gains 79 = .ok (.iadd, 1) := by decide +kernel
theorem dX12_gains_80 : decode cX12_gains 80 = .ok (.iaload, 1) := by decide +kernel
theorem dX12_gains_81 : decode cX12_gains 81 = .ok (.iload 6, 2) := by decide +kernel
theorem dX12_gains_83 : decode cX12_gains 83 = .ok (.isub, 1) := by decide +kernel
theorem dX12_gains_84 : decode cX12_gains 84 = .ok (.iload 5, 2) := by decide +kernel
theorem dX12_gains_86 : decode cX12_gains 86 = .ok (.iadd, 1) := by decide +kernel
theorem dX12_gains_87 : decode cX12_gains 87 = .ok (.iconst 0, 1) := by decide +kernel
theorem dX12_gains_88 : decode cX12_gains 88 = .ok (.sipush 9999, 3) := by decide +kernel
theorem dX12_gains_91 : decode cX12_gains 91 = .ok (.invokestatic 311, 3) := by decide +kernel
theorem dX12_gains_94 : decode cX12_gains 94 = .ok (.iastore, 1) := by decide +kernel
theorem dX12_gains_95 : decode cX12_gains 95 = .ok (.aload_n 0, 1) := by decide +kernel
theorem dX12_gains_96 : decode cX12_gains 96 = .ok (.bipush 10, 2) := by decide +kernel
theorem dX12_gains_98 : decode cX12_gains 98 = .ok (.invokevirtual 392, 3) := by decide +kernel
theorem dX12_gains_101 : decode cX12_gains 101 = .ok (.aload_n 0, 1) := by decide +kernel
theorem dX12_gains_102 : decode cX12_gains 102 = .ok (.getfield 75, 3) := by decide +kernel
theorem dX12_gains_105 : decode cX12_gains 105 = .ok (.bipush 102, 2) := by decide +kernel
theorem dX12_gains_107 : decode cX12_gains 107 = .ok (.iload_n 1, 1) := by decide +kernel
theorem dX12_gains_108 : decode cX12_gains 108 = .ok (.iadd, 1) := by decide +kernel
theorem dX12_gains_109 : decode cX12_gains 109 = .ok (.iaload, 1) := by decide +kernel
theorem dX12_gains_110 : decode cX12_gains 110 = .ok (.aload_n 0, 1) := by decide +kernel
theorem dX12_gains_111 : decode cX12_gains 111 = .ok (.getfield 75, 3) := by decide +kernel
theorem dX12_gains_114 : decode cX12_gains 114 = .ok (.bipush 17, 2) := by decide +kernel
theorem dX12_gains_116 : decode cX12_gains 116 = .ok (.iload_n 1, 1) := by decide +kernel
theorem dX12_gains_117 : decode cX12_gains 117 = .ok (.iadd, 1) := by decide +kernel
theorem dX12_gains_118 : decode cX12_gains 118 = .ok (.iaload, 1) := by decide +kernel
theorem dX12_gains_119 : decode cX12_gains 119 = .ok (.isub, 1) := by decide +kernel
theorem dX12_gains_120 : decode cX12_gains 120 = .ok (.ireturn, 1) := by decide +kernel
theorem dX12_game_0 : decode cX12_game 0 = .ok (.aload_n 0, 1) := by decide +kernel
theorem dX12_game_1 : decode cX12_game 1 = .ok (.iconst 0, 1) := by decide +kernel
theorem dX12_game_2 : decode cX12_game 2 = .ok (.putfield 117, 3) := by decide +kernel
theorem dX12_game_5 : decode cX12_game 5 = .ok (.aload_n 0, 1) := by decide +kernel
theorem dX12_game_6 : decode cX12_game 6 = .ok (.iload_n 1, 1) := by decide +kernel
theorem dX12_game_7 : decode cX12_game 7 = .ok (.invokevirtual 362, 3) := by decide +kernel
theorem dX12_game_10 : decode cX12_game 10 = .ok (.ifCond .eq 38, 3) := by decide +kernel
theorem dX12_game_13 : decode cX12_game 13 = .ok (.aload_n 0, 1) := by decide +kernel
theorem dX12_game_14 : decode cX12_game 14 = .ok (.iload_n 2, 1) := by decide +kernel
theorem dX12_game_15 : decode cX12_game 15 = .ok (.invokevirtual 362, 3) := by decide +kernel
theorem dX12_game_18 : decode cX12_game 18 = .ok (.ifCond .eq 30, 3) := by decide +kernel
theorem dX12_game_21 : decode cX12_game 21 = .ok (.aload_n 0, 1) := by decide +kernel
theorem dX12_game_22 : decode cX12_game 22 = .ok (.iload_n 3, 1) := by decide +kernel
theorem dX12_game_23 : decode cX12_game 23 = .ok (.iconst 1, 1) := by decide +kernel
theorem dX12_game_24 : decode cX12_game 24 = .ok (.invokevirtual 365, 3) := by decide +kernel
theorem dX12_game_27 : decode cX12_game 27 = .ok (.ifCond .eq 21, 3) := by decide +kernel
theorem dX12_game_30 : decode cX12_game 30 = .ok (.aload_n 0, 1) := by decide +kernel
theorem dX12_game_31 : decode cX12_game 31 = .ok (.iload_n 1, 1) := by decide +kernel
theorem dX12_game_32 : decode cX12_game 32 = .ok (.iload_n 2, 1) := by decide +kernel
theorem dX12_game_33 : decode cX12_game 33 = .ok (.if_icmp .eq 7, 3) := by decide +kernel
theorem dX12_game_36 : decode cX12_game 36 = .ok (.iconst 1, 1) := by decide +kernel
theorem dX12_game_37 : decode cX12_game 37 = .ok (.goto 4, 3) := by decide +kernel
theorem dX12_game_40 : decode cX12_game 40 = .ok (.iconst 0, 1) := by decide +kernel
theorem dX12_game_41 : decode cX12_game 41 = .ok (.iconst 2, 1) := by decide +kernel
theorem dX12_game_42 : decode cX12_game 42 = .ok (.invokevirtual 274, 3) := by decide +kernel
theorem dX12_game_45 : decode cX12_game 45 = .ok (.ifCond .ne 5, 3) := by decide +kernel
theorem dX12_game_48 : decode cX12_game 48 = .ok (.iconst 0, 1) := by decide +kernel
theorem dX12_game_49 : decode cX12_game 49 = .ok (.ireturn, 1) := by decide +kernel
theorem dX12_game_50 : decode cX12_game 50 = .ok (.iconst 0, 1) := by decide +kernel
theorem dX12_game_51 : decode cX12_game 51 = .ok (.istore 4, 2) := by decide +kernel
theorem dX12_game_53 : decode cX12_game 53 = .ok (.iconst (-1), 1) := by decide +kernel
theorem dX12_game_54 : decode cX12_game 54 = .ok (.istore 5, 2) := by decide +kernel
theorem dX12_game_56 : decode cX12_game 56 = .ok (.iconst 0, 1) := by decide +kernel
theorem dX12_game_57 : decode cX12_game 57 = .ok (.istore 6, 2) := by decide +kernel
theorem dX12_game_59 : decode cX12_game 59 = .ok (.iload 6, 2) := by decide +kernel
theorem dX12_game_61 : decode cX12_game 61 = .ok (.iconst 4, 1) := by decide +kernel
theorem dX12_game_62 : decode cX12_game 62 = .ok (.if_icmp .ge 93, 3) := by decide +kernel
theorem dX12_game_65 : decode cX12_game 65 = .ok (.iload 6, 2) := by decide +kernel
theorem dX12_game_67 : decode cX12_game 67 = .ok (.iconst 2, 1) := by decide +kernel
theorem dX12_game_68 : decode cX12_game 68 = .ok (.idiv, 1) := by decide +kernel
theorem dX12_game_69 : decode cX12_game 69 = .ok (.istore 7, 2) := by decide +kernel
theorem dX12_game_71 : decode cX12_game 71 = .ok (.iload 6, 2) := by decide +kernel
theorem dX12_game_73 : decode cX12_game 73 = .ok (.iconst 2, 1) := by decide +kernel
theorem dX12_game_74 : decode cX12_game 74 = .ok (.irem, 1) := by decide +kernel
theorem dX12_game_75 : decode cX12_game 75 = .ok (.istore 8, 2) := by decide +kernel
theorem dX12_game_77 : decode cX12_game 77 = .ok (.aload_n 0, 1) := by decide +kernel
theorem dX12_game_78 : decode cX12_game 78 = .ok (.iload_n 1, 1) := by decide +kernel
theorem dX12_game_79 : decode cX12_game 79 = .ok (.iload_n 2, 1) := by decide +kernel
theorem dX12_game_80 : decode cX12_game 80 = .ok (.iconst 1, 1) := by decide +kernel
theorem dX12_game_81 : decode cX12_game 81 = .ok (.iload 7, 2) := by decide +kernel
theorem dX12_game_83 : decode cX12_game 83 = .ok (.isub, 1) := by decide +kernel
theorem dX12_game_84 : decode cX12_game 84 = .ok (.iload 8, 2) := by decide +kernel
theorem dX12_game_86 : decode cX12_game 86 = .ok (.invokevirtual 426, 3) := by decide +kernel
theorem dX12_game_89 : decode cX12_game 89 = .ok (.aload_n 0, 1) := by decide +kernel
theorem dX12_game_90 : decode cX12_game 90 = .ok (.iload_n 1, 1) := by decide +kernel
theorem dX12_game_91 : decode cX12_game 91 = .ok (.iload_n 2, 1) := by decide +kernel
theorem dX12_game_92 : decode cX12_game 92 = .ok (.iload 7, 2) := by decide +kernel
theorem dX12_game_94 : decode cX12_game 94 = .ok (.iload 8, 2) := by decide +kernel
theorem dX12_game_96 : decode cX12_game 96 = .ok (.invokevirtual 426, 3) := by decide +kernel
theorem dX12_game_99 : decode cX12_game 99 = .ok (.if_icmp .gt 50, 3) := by decide +kernel
theorem dX12_game_102 : decode cX12_game 102 = .ok (.aload_n 0, 1) := by decide +kernel
theorem dX12_game_103 : decode cX12_game 103 = .ok (.iload_n 2, 1) := by decide +kernel
theorem dX12_game_104 : decode cX12_game 104 = .ok (.iload_n 1, 1) := by decide +kernel
theorem dX12_game_105 : decode cX12_game 105 = .ok (.iconst 1, 1) := by decide +kernel
theorem dX12_game_106 : decode cX12_game 106 = .ok (.iload 8, 2) := by decide +kernel
theorem dX12_game_108 : decode cX12_game 108 = .ok (.isub, 1) := by decide +kernel
theorem dX12_game_109 : decode cX12_game 109 = .ok (.iload 7, 2) := by decide +kernel
theorem dX12_game_111 : decode cX12_game 111 = .ok (.invokevirtual 426, 3) := by decide +kernel
theorem dX12_game_114 : decode cX12_game 114 = .ok (.aload_n 0, 1) := by decide +kernel
theorem dX12_game_115 : decode cX12_game 115 = .ok (.iload_n 2, 1) := by decide +kernel
theorem dX12_game_116 : decode cX12_game 116 = .ok (.iload_n 1, 1) := by decide +kernel
theorem dX12_game_117 : decode cX12_game 117 = .ok (.iload 8, 2) := by decide +kernel
theorem dX12_game_119 : decode cX12_game 119 = .ok (.iload 7, 2) := by decide +kernel
theorem dX12_game_121 : decode cX12_game 121 = .ok (.invokevirtual 426, 3) := by decide +kernel
theorem dX12_game_124 : decode cX12_game 124 = .ok (.if_icmp .le 6, 3) := by decide +kernel
theorem dX12_game_127 : decode cX12_game 127 = .ok (.goto 22, 3) := by decide +kernel
theorem dX12_game_130 : decode cX12_game 130 = .ok (.iinc 4 1, 3) := by decide +kernel
theorem dX12_game_133 : decode cX12_game 133 = .ok (.iload 5, 2) := by decide +kernel
theorem dX12_game_135 : decode cX12_game 135 = .ok (.iconst (-1), 1) := by decide +kernel
theorem dX12_game_136 : decode cX12_game 136 = .ok (.if_icmp .ne 13, 3) := by decide +kernel
theorem dX12_game_139 : decode cX12_game 139 = .ok (.bipush 10, 2) := by decide +kernel
theorem dX12_game_141 : decode cX12_game 141 = .ok (.iload 7, 2) := by decide +kernel
theorem dX12_game_143 : decode cX12_game 143 = .ok (.imul, 1) := by decide +kernel
theorem dX12_game_144 : decode cX12_game 144 = .ok (.iload 8, 2) := by decide +kernel
theorem dX12_game_146 : decode cX12_game 146 = .ok (.iadd, 1) := by decide +kernel
theorem dX12_game_147 : decode cX12_game 147 = .ok (.istore 5, 2) := by decide +kernel
theorem dX12_game_149 : decode cX12_game 149 = .ok (.iinc 6 1, 3) := by decide +kernel
theorem dX12_game_152 : decode cX12_game 152 = .ok (.goto (-93), 3) := by decide +kernel
theorem dX12_game_155 : decode cX12_game 155 = .ok (.iload_n 3, 1) := by decide +kernel
theorem dX12_game_156 : decode cX12_game 156 = .ok (.ifCond .ne 8, 3) := by decide +kernel
theorem dX12_game_159 : decode cX12_game 159 = .ok (.iload 4, 2) := by decide +kernel
theorem dX12_game_161 : decode cX12_game 161 = .ok (.goto 5, 3) := by decide +kernel
theorem dX12_game_164 : decode cX12_game 164 = .ok (.iload 5, 2) := by decide +kernel
theorem dX12_game_166 : decode cX12_game 166 = .ok (.ireturn, 1) := by decide +kernel
theorem dX12_draw_0 : decode cX12_draw 0 = .ok (.aload_n 0, 1) := by decide +kernel
theorem dX12_draw_1 : decode cX12_draw 1 = .ok (.aload_n 0, 1) := by decide +kernel
theorem dX12_draw_2 : decode cX12_draw 2 = .ok (.getfield 430, 3) := by decide +kernel
theorem dX12_draw_5 : decode cX12_draw 5 = .ok (.ldc_w 433, 3) := by decide +kernel
theorem dX12_draw_8 : decode cX12_draw 8 = .ok (.imul, 1) := by decide +kernel
theorem dX12_draw_9 : decode cX12_draw 9 = .ok (.sipush 12345, 3) := by decide +kernel
theorem dX12_draw_12 : decode cX12_draw 12 = .ok (.iadd, 1) := by decide +kernel
theorem dX12_draw_13 : decode cX12_draw 13 = .ok (.putfield 430, 3) := by decide +kernel
theorem dX12_draw_16 : decode cX12_draw 16 = .ok (.aload_n 0, 1) := by decide +kernel
theorem dX12_draw_17 : decode cX12_draw 17 = .ok (.getfield 430, 3) := by decide +kernel
theorem dX12_draw_20 : decode cX12_draw 20 = .ok (.bipush 16, 2) := by decide +kernel
theorem dX12_draw_22 : decode cX12_draw 22 = .ok (.ishr, 1) := by decide +kernel
theorem dX12_draw_23 : decode cX12_draw 23 = .ok (.sipush 32767, 3) := by decide +kernel
theorem dX12_draw_26 : decode cX12_draw 26 = .ok (.iand, 1) := by decide +kernel
theorem dX12_draw_27 : decode cX12_draw 27 = .ok (.iload_n 1, 1) := by decide +kernel
theorem dX12_draw_28 : decode cX12_draw 28 = .ok (.irem, 1) := by decide +kernel
theorem dX12_draw_29 : decode cX12_draw 29 = .ok (.ireturn, 1) := by decide +kernel
theorem dX12_steals_0 : decode cX12_steals 0 = .ok (.aload_n 0, 1) := by decide +kernel
theorem dX12_steals_1 : decode cX12_steals 1 = .ok (.bipush 9, 2) := by decide +kernel
theorem dX12_steals_3 : decode cX12_steals 3 = .ok (.invokevirtual 434, 3) := by decide +kernel
theorem dX12_steals_6 : decode cX12_steals 6 = .ok (.ifCond .ne 10, 3) := by decide +kernel
theorem dX12_steals_9 : decode cX12_steals 9 = .ok (.aload_n 0, 1) := by decide +kernel
theorem dX12_steals_10 : decode cX12_steals 10 = .ok (.getfield 287, 3) := by decide +kernel
theorem dX12_steals_13 : decode cX12_steals 13 = .ok (.ifCond .ne 4, 3) := by decide +kernel
theorem dX12_steals_16 : decode cX12_steals 16 = .ok (.return_, 1) := by decide +kernel
theorem dX12_steals_17 : decode cX12_steals 17 = .ok (.aload_n 0, 1) := by decide +kernel
theorem dX12_steals_18 : decode cX12_steals 18 = .ok (.aload_n 0, 1) := by decide +kernel
theorem dX12_steals_19 : decode cX12_steals 19 = .ok (.getfield 287, 3) := by decide +kernel
theorem dX12_steals_22 : decode cX12_steals 22 = .ok (.invokevirtual 434, 3) := by decide +kernel
theorem dX12_steals_25 : decode cX12_steals 25 = .ok (.istore_n 1, 1) := by decide +kernel
theorem dX12_steals_26 : decode cX12_steals 26 = .ok (.aload_n 0, 1) := by decide +kernel
theorem dX12_steals_27 : decode cX12_steals 27 = .ok (.bipush 85, 2) := by decide +kernel
theorem dX12_steals_29 : decode cX12_steals 29 = .ok (.iload_n 1, 1) := by decide +kernel
theorem dX12_steals_30 : decode cX12_steals 30 = .ok (.invokevirtual 308, 3) := by decide +kernel
theorem dX12_steals_33 : decode cX12_steals 33 = .ok (.ifCond .ne 4, 3) := by decide +kernel
theorem dX12_steals_36 : decode cX12_steals 36 = .ok (.return_, 1) := by decide +kernel
theorem dX12_steals_37 : decode cX12_steals 37 = .ok (.aload_n 0, 1) := by decide +kernel
theorem dX12_steals_38 : decode cX12_steals 38 = .ok (.getfield 75, 3) := by decide +kernel
theorem dX12_steals_41 : decode cX12_steals 41 = .ok (.bipush 110, 2) := by decide +kernel
theorem dX12_steals_43 : decode cX12_steals 43 = .ok (.iload_n 1, 1) := by decide +kernel
theorem dX12_steals_44 : decode cX12_steals 44 = .ok (.iadd, 1) := by decide +kernel
theorem dX12_steals_45 : decode cX12_steals 45 = .ok (.iconst 0, 1) := by decide +kernel
theorem dX12_steals_46 : decode cX12_steals 46 = .ok (.iastore, 1) := by decide +kernel
theorem dX12_steals_47 : decode cX12_steals 47 = .ok (.aload_n 0, 1) := by decide +kernel
theorem dX12_steals_48 : decode cX12_steals 48 = .ok (.getfield 75, 3) := by decide +kernel
theorem dX12_steals_51 : decode cX12_steals 51 = .ok (.sipush 140, 3) := by decide +kernel
theorem dX12_steals_54 : decode cX12_steals 54 = .ok (.iload_n 1, 1) := by decide +kernel
theorem dX12_steals_55 : decode cX12_steals 55 = .ok (.iadd, 1) := by decide +kernel
theorem dX12_steals_56 : decode cX12_steals 56 = .ok (.iconst (-1), 1) := by decide +kernel
theorem dX12_steals_57 : decode cX12_steals 57 = .ok (.iastore, 1) := by decide +kernel
theorem dX12_steals_58 : decode cX12_steals 58 = .ok (.return_, 1) := by decide +kernel
theorem dX12_years_0 : decode cX12_years 0 = .ok (.aload_n 0, 1) := by decide +kernel
theorem dX12_years_1 : decode cX12_years 1 = .ok (.iconst 0, 1) := by decide +kernel
theorem dX12_years_2 : decode cX12_years 2 = .ok (.putfield 117, 3) := by decide +kernel
theorem dX12_years_5 : decode cX12_years 5 = .ok (.aload_n 0, 1) := by decide +kernel
theorem dX12_years_6 : decode cX12_years 6 = .ok (.iload_n 3, 1) := by decide +kernel
theorem dX12_years_7 : decode cX12_years 7 = .ok (.iconst 2, 1) := by decide +kernel
theorem dX12_years_8 : decode cX12_years 8 = .ok (.invokevirtual 365, 3) := by decide +kernel
theorem dX12_years_11 : decode cX12_years 11 = .ok (.ifCond .eq 13, 3) := by decide +kernel
theorem dX12_years_14 : decode cX12_years 14 = .ok (.aload_n 0, 1) := by decide +kernel
theorem dX12_years_15 : decode cX12_years 15 = .ok (.iload_n 2, 1) := by decide +kernel
theorem dX12_years_16 : decode cX12_years 16 = .ok (.iconst 0, 1) := by decide +kernel
theorem dX12_years_17 : decode cX12_years 17 = .ok (.iconst 2, 1) := by decide +kernel
theorem dX12_years_18 : decode cX12_years 18 = .ok (.invokevirtual 386, 3) := by decide +kernel
theorem dX12_years_21 : decode cX12_years 21 = .ok (.ifCond .ne 5, 3) := by decide +kernel
theorem dX12_years_24 : decode cX12_years 24 = .ok (.iconst 0, 1) := by decide +kernel
theorem dX12_years_25 : decode cX12_years 25 = .ok (.ireturn, 1) := by decide +kernel
theorem dX12_years_26 : decode cX12_years 26 = .ok (.aload_n 0, 1) := by decide +kernel
theorem dX12_years_27 : decode cX12_years 27 = .ok (.invokevirtual 389, 3) := by decide +kernel
theorem dX12_years_30 : decode cX12_years 30 = .ok (.aload_n 0, 1) := by decide +kernel
theorem dX12_years_31 : decode cX12_years 31 = .ok (.iload_n 1, 1) := by decide +kernel
theorem dX12_years_32 : decode cX12_years 32 = .ok (.putfield 430, 3) := by decide +kernel
theorem dX12_years_35 : decode cX12_years 35 = .ok (.iconst 0, 1) := by decide +kernel
theorem dX12_years_36 : decode cX12_years 36 = .ok (.istore 4, 2) := by decide +kernel
theorem dX12_years_38 : decode cX12_years 38 = .ok (.iload 4, 2) := by decide +kernel
theorem dX12_years_40 : decode cX12_years 40 = .ok (.iload_n 2, 1) := by decide +kernel
theorem dX12_years_41 : decode cX12_years 41 = .ok (.if_icmp .ge 90, 3) := by decide +kernel
theorem dX12_years_44 : decode cX12_years 44 = .ok (.aload_n 0, 1) := by decide +kernel
theorem dX12_years_45 : decode cX12_years 45 = .ok (.invokevirtual 437, 3) := by decide +kernel
theorem dX12_years_48 : decode cX12_years 48 = .ok (.aload_n 0, 1) := by decide +kernel
theorem dX12_years_49 : decode cX12_years 49 = .ok (.bipush 85, 2) := by decide +kernel
theorem dX12_years_51 : decode cX12_years 51 = .ok (.invokevirtual 326, 3) := by decide +kernel
theorem dX12_years_54 : decode cX12_years 54 = .ok (.iconst 0, 1) := by decide +kernel
theorem dX12_years_55 : decode cX12_years 55 = .ok (.istore 5, 2) := by decide +kernel
theorem dX12_years_57 : decode cX12_years 57 = .ok (.iload 5, 2) := by decide +kernel
theorem dX12_years_59 : decode cX12_years 59 = .ok (.aload_n 0, 1) := by decide +kernel
theorem dX12_years_60 : decode cX12_years 60 = .ok (.getfield 281, 3) := by decide +kernel
theorem dX12_years_63 : decode cX12_years 63 = .ok (.if_icmp .ge 51, 3) := by decide +kernel
theorem dX12_years_66 : decode cX12_years 66 = .ok (.aload_n 0, 1) := by decide +kernel
theorem dX12_years_67 : decode cX12_years 67 = .ok (.bipush 85, 2) := by decide +kernel
theorem dX12_years_69 : decode cX12_years 69 = .ok (.iload 5, 2) := by decide +kernel
theorem dX12_years_71 : decode cX12_years 71 = .ok (.invokevirtual 332, 3) := by decide +kernel
theorem dX12_years_74 : decode cX12_years 74 = .ok (.aload_n 0, 1) := by decide +kernel
theorem dX12_years_75 : decode cX12_years 75 = .ok (.bipush 85, 2) := by decide +kernel
theorem dX12_years_77 : decode cX12_years 77 = .ok (.iload 5, 2) := by decide +kernel
theorem dX12_years_79 : decode cX12_years 79 = .ok (.invokevirtual 336, 3) := by decide +kernel
theorem dX12_years_82 : decode cX12_years 82 = .ok (.istore 6, 2) := by decide +kernel
theorem dX12_years_84 : decode cX12_years 84 = .ok (.aload_n 0, 1) := by decide +kernel
theorem dX12_years_85 : decode cX12_years 85 = .ok (.bipush 85, 2) := by decide +kernel
theorem dX12_years_87 : decode cX12_years 87 = .ok (.iload 5, 2) := by decide +kernel
theorem dX12_years_89 : decode cX12_years 89 = .ok (.aload_n 0, 1) := by decide +kernel
theorem dX12_years_90 : decode cX12_years 90 = .ok (.bipush 12, 2) := by decide +kernel
theorem dX12_years_92 : decode cX12_years 92 = .ok (.invokevirtual 434, 3) := by decide +kernel
theorem dX12_years_95 : decode cX12_years 95 = .ok (.iload 6, 2) := by decide +kernel
theorem dX12_years_97 : decode cX12_years 97 = .ok (.if_icmp .ge 7, 3) := by decide +kernel
theorem dX12_years_100 : decode cX12_years 100 = .ok (.iconst 1, 1) := by decide +kernel
theorem dX12_years_101 : decode cX12_years 101 = .ok (.goto 4, 3) := by decide +kernel
theorem dX12_years_104 : decode cX12_years 104 = .ok (.iconst 0, 1) := by decide +kernel
theorem dX12_years_105 : decode cX12_years 105 = .ok (.invokevirtual 339, 3) := by decide +kernel
theorem dX12_years_108 : decode cX12_years 108 = .ok (.iinc 5 1, 3) := by decide +kernel
theorem dX12_years_111 : decode cX12_years 111 = .ok (.goto (-54), 3) := by decide +kernel
theorem dX12_years_114 : decode cX12_years 114 = .ok (.aload_n 0, 1) := by decide +kernel
theorem dX12_years_115 : decode cX12_years 115 = .ok (.getfield 75, 3) := by decide +kernel
theorem dX12_years_118 : decode cX12_years 118 = .ok (.bipush 85, 2) := by decide +kernel
theorem dX12_years_120 : decode cX12_years 120 = .ok (.dup2, 1) := by decide +kernel
theorem dX12_years_121 : decode cX12_years 121 = .ok (.iaload, 1) := by decide +kernel
theorem dX12_years_122 : decode cX12_years 122 = .ok (.iconst 1, 1) := by decide +kernel
theorem dX12_years_123 : decode cX12_years 123 = .ok (.iadd, 1) := by decide +kernel
theorem dX12_years_124 : decode cX12_years 124 = .ok (.iastore, 1) := by decide +kernel
theorem dX12_years_125 : decode cX12_years 125 = .ok (.iinc 4 1, 3) := by decide +kernel
theorem dX12_years_128 : decode cX12_years 128 = .ok (.goto (-90), 3) := by decide +kernel
theorem dX12_years_131 : decode cX12_years 131 = .ok (.iload_n 3, 1) := by decide +kernel
theorem dX12_years_132 : decode cX12_years 132 = .ok (.ifCond .ne 12, 3) := by decide +kernel
theorem dX12_years_135 : decode cX12_years 135 = .ok (.aload_n 0, 1) := by decide +kernel
theorem dX12_years_136 : decode cX12_years 136 = .ok (.bipush 102, 2) := by decide +kernel
theorem dX12_years_138 : decode cX12_years 138 = .ok (.invokevirtual 350, 3) := by decide +kernel
theorem dX12_years_141 : decode cX12_years 141 = .ok (.goto 26, 3) := by decide +kernel
theorem dX12_years_144 : decode cX12_years 144 = .ok (.iload_n 3, 1) := by decide +kernel
theorem dX12_years_145 : decode cX12_years 145 = .ok (.iconst 1, 1) := by decide +kernel
theorem dX12_years_146 : decode cX12_years 146 = .ok (.if_icmp .ne 12, 3) := by decide +kernel
theorem dX12_years_149 : decode cX12_years 149 = .ok (.aload_n 0, 1) := by decide +kernel
theorem dX12_years_150 : decode cX12_years 150 = .ok (.bipush 86, 2) := by decide +kernel
theorem dX12_years_152 : decode cX12_years 152 = .ok (.invokevirtual 350, 3) := by decide +kernel
theorem dX12_years_155 : decode cX12_years 155 = .ok (.goto 12, 3) := by decide +kernel
theorem dX12_years_158 : decode cX12_years 158 = .ok (.aload_n 0, 1) := by decide +kernel
theorem dX12_years_159 : decode cX12_years 159 = .ok (.bipush 85, 2) := by decide +kernel
theorem dX12_years_161 : decode cX12_years 161 = .ok (.invokevirtual 359, 3) := by decide +kernel
theorem dX12_years_164 : decode cX12_years 164 = .ok (.invokestatic 317, 3) := by decide +kernel
theorem dX12_years_167 : decode cX12_years 167 = .ok (.ireturn, 1) := by decide +kernel
theorem dX12_grainsOf_0 : decode cX12_grainsOf 0 = .ok (.iconst 0, 1) := by decide +kernel
theorem dX12_grainsOf_1 : decode cX12_grainsOf 1 = .ok (.istore_n 3, 1) := by decide +kernel
theorem dX12_grainsOf_2 : decode cX12_grainsOf 2 = .ok (.iconst 0, 1) := by decide +kernel
theorem dX12_grainsOf_3 : decode cX12_grainsOf 3 = .ok (.istore 4, 2) := by decide +kernel
theorem dX12_grainsOf_5 : decode cX12_grainsOf 5 = .ok (.iload 4, 2) := by decide +kernel
theorem dX12_grainsOf_7 : decode cX12_grainsOf 7 = .ok (.aload_n 0, 1) := by decide +kernel
theorem dX12_grainsOf_8 : decode cX12_grainsOf 8 = .ok (.getfield 287, 3) := by decide +kernel
theorem dX12_grainsOf_11 : decode cX12_grainsOf 11 = .ok (.if_icmp .ge 50, 3) := by decide +kernel
theorem dX12_grainsOf_14 : decode cX12_grainsOf 14 = .ok (.iload_n 3, 1) := by decide +kernel
theorem dX12_grainsOf_15 : decode cX12_grainsOf 15 = .ok (.iload_n 1, 1) := by decide +kernel
theorem dX12_grainsOf_16 : decode cX12_grainsOf 16 = .ok (.iload 4, 2) := by decide +kernel
theorem dX12_grainsOf_18 : decode cX12_grainsOf 18 = .ok (.ishr, 1) := by decide +kernel
theorem dX12_grainsOf_19 : decode cX12_grainsOf 19 = .ok (.iconst 1, 1) := by decide +kernel
theorem dX12_grainsOf_20 : decode cX12_grainsOf 20 = .ok (.iand, 1) := by decide +kernel
theorem dX12_grainsOf_21 : decode cX12_grainsOf 21 = .ok (.iconst 1, 1) := by decide +kernel
theorem dX12_grainsOf_22 : decode cX12_grainsOf 22 = .ok (.if_icmp .ne 30, 3) := by decide +kernel
theorem dX12_grainsOf_25 : decode cX12_grainsOf 25 = .ok (.aload_n 0, 1) := by decide +kernel
theorem dX12_grainsOf_26 : decode cX12_grainsOf 26 = .ok (.getfield 75, 3) := by decide +kernel
theorem dX12_grainsOf_29 : decode cX12_grainsOf 29 = .ok (.bipush 35, 2) := by decide +kernel
theorem dX12_grainsOf_31 : decode cX12_grainsOf 31 = .ok (.iload 4, 2) := by decide +kernel
theorem dX12_grainsOf_33 : decode cX12_grainsOf 33 = .ok (.iadd, 1) := by decide +kernel
theorem dX12_grainsOf_34 : decode cX12_grainsOf 34 = .ok (.iaload, 1) := by decide +kernel
theorem dX12_grainsOf_35 : decode cX12_grainsOf 35 = .ok (.iload_n 2, 1) := by decide +kernel
theorem dX12_grainsOf_36 : decode cX12_grainsOf 36 = .ok (.if_icmp .ne 16, 3) := by decide +kernel
theorem dX12_grainsOf_39 : decode cX12_grainsOf 39 = .ok (.aload_n 0, 1) := by decide +kernel
theorem dX12_grainsOf_40 : decode cX12_grainsOf 40 = .ok (.getfield 75, 3) := by decide +kernel
theorem dX12_grainsOf_43 : decode cX12_grainsOf 43 = .ok (.bipush 25, 2) := by decide +kernel
theorem dX12_grainsOf_45 : decode cX12_grainsOf 45 = .ok (.iload 4, 2) := by decide +kernel
theorem dX12_grainsOf_47 : decode cX12_grainsOf 47 = .ok (.iadd, 1) := by decide +kernel
theorem dX12_grainsOf_48 : decode cX12_grainsOf 48 = .ok (.iaload, 1) := by decide +kernel
theorem dX12_grainsOf_49 : decode cX12_grainsOf 49 = .ok (.goto 4, 3) := by decide +kernel
theorem dX12_grainsOf_52 : decode cX12_grainsOf 52 = .ok (.iconst 0, 1) := by decide +kernel
theorem dX12_grainsOf_53 : decode cX12_grainsOf 53 = .ok (.iadd, 1) := by decide +kernel
theorem dX12_grainsOf_54 : decode cX12_grainsOf 54 = .ok (.istore_n 3, 1) := by decide +kernel
theorem dX12_grainsOf_55 : decode cX12_grainsOf 55 = .ok (.iinc 4 1, 3) := by decide +kernel
theorem dX12_grainsOf_58 : decode cX12_grainsOf 58 = .ok (.goto (-53), 3) := by decide +kernel
theorem dX12_grainsOf_61 : decode cX12_grainsOf 61 = .ok (.iload_n 3, 1) := by decide +kernel
theorem dX12_grainsOf_62 : decode cX12_grainsOf 62 = .ok (.ireturn, 1) := by decide +kernel
theorem dX12_thief_0 : decode cX12_thief 0 = .ok (.aload_n 0, 1) := by decide +kernel
theorem dX12_thief_1 : decode cX12_thief 1 = .ok (.iconst 0, 1) := by decide +kernel
theorem dX12_thief_2 : decode cX12_thief 2 = .ok (.putfield 117, 3) := by decide +kernel
theorem dX12_thief_5 : decode cX12_thief 5 = .ok (.aload_n 0, 1) := by decide +kernel
theorem dX12_thief_6 : decode cX12_thief 6 = .ok (.iload_n 1, 1) := by decide +kernel
theorem dX12_thief_7 : decode cX12_thief 7 = .ok (.invokevirtual 362, 3) := by decide +kernel
theorem dX12_thief_10 : decode cX12_thief 10 = .ok (.ifCond .eq 19, 3) := by decide +kernel
theorem dX12_thief_13 : decode cX12_thief 13 = .ok (.aload_n 0, 1) := by decide +kernel
theorem dX12_thief_14 : decode cX12_thief 14 = .ok (.iload_n 2, 1) := by decide +kernel
theorem dX12_thief_15 : decode cX12_thief 15 = .ok (.iconst 0, 1) := by decide +kernel
theorem dX12_thief_16 : decode cX12_thief 16 = .ok (.sipush 999, 3) := by decide +kernel
theorem dX12_thief_19 : decode cX12_thief 19 = .ok (.invokestatic 346, 3) := by decide +kernel
theorem dX12_thief_22 : decode cX12_thief 22 = .ok (.iconst 2, 1) := by decide +kernel
theorem dX12_thief_23 : decode cX12_thief 23 = .ok (.invokevirtual 274, 3) := by decide +kernel
theorem dX12_thief_26 : decode cX12_thief 26 = .ok (.ifCond .ne 5, 3) := by decide +kernel
theorem dX12_thief_29 : decode cX12_thief 29 = .ok (.iconst 0, 1) := by decide +kernel
theorem dX12_thief_30 : decode cX12_thief 30 = .ok (.ireturn, 1) := by decide +kernel
theorem dX12_thief_31 : decode cX12_thief 31 = .ok (.aload_n 0, 1) := by decide +kernel
theorem dX12_thief_32 : decode cX12_thief 32 = .ok (.iconst 0, 1) := by decide +kernel
theorem dX12_thief_33 : decode cX12_thief 33 = .ok (.iload_n 1, 1) := by decide +kernel
theorem dX12_thief_34 : decode cX12_thief 34 = .ok (.invokevirtual 314, 3) := by decide +kernel
theorem dX12_thief_37 : decode cX12_thief 37 = .ok (.istore_n 3, 1) := by decide +kernel
theorem dX12_thief_38 : decode cX12_thief 38 = .ok (.iconst 0, 1) := by decide +kernel
theorem dX12_thief_39 : decode cX12_thief 39 = .ok (.istore 4, 2) := by decide +kernel
theorem dX12_thief_41 : decode cX12_thief 41 = .ok (.iload 4, 2) := by decide +kernel
theorem dX12_thief_43 : decode cX12_thief 43 = .ok (.aload_n 0, 1) := by decide +kernel
theorem dX12_thief_44 : decode cX12_thief 44 = .ok (.getfield 287, 3) := by decide +kernel
theorem dX12_thief_47 : decode cX12_thief 47 = .ok (.if_icmp .ge 36, 3) := by decide +kernel
theorem dX12_thief_50 : decode cX12_thief 50 = .ok (.iload_n 3, 1) := by decide +kernel
theorem dX12_thief_51 : decode cX12_thief 51 = .ok (.aload_n 0, 1) := by decide +kernel
theorem dX12_thief_52 : decode cX12_thief 52 = .ok (.getfield 75, 3) := by decide +kernel
theorem dX12_thief_55 : decode cX12_thief 55 = .ok (.bipush 35, 2) := by decide +kernel
theorem dX12_thief_57 : decode cX12_thief 57 = .ok (.iload 4, 2) := by decide +kernel
theorem dX12_thief_59 : decode cX12_thief 59 = .ok (.iadd, 1) := by decide +kernel
theorem dX12_thief_60 : decode cX12_thief 60 = .ok (.iaload, 1) := by decide +kernel
theorem dX12_thief_61 : decode cX12_thief 61 = .ok (.iconst 1, 1) := by decide +kernel
theorem dX12_thief_62 : decode cX12_thief 62 = .ok (.if_icmp .ne 12, 3) := by decide +kernel
theorem dX12_thief_65 : decode cX12_thief 65 = .ok (.iconst 1, 1) := by decide +kernel
theorem dX12_thief_66 : decode cX12_thief 66 = .ok (.iload 4, 2) := by decide +kernel
theorem dX12_thief_68 : decode cX12_thief 68 = .ok (.ishl, 1) := by decide +kernel
theorem dX12_thief_69 : decode cX12_thief 69 = .ok (.iconst (-1), 1) := by decide +kernel
theorem dX12_thief_70 : decode cX12_thief 70 = .ok (.ixor, 1) := by decide +kernel
theorem dX12_thief_71 : decode cX12_thief 71 = .ok (.goto 4, 3) := by decide +kernel
theorem dX12_thief_74 : decode cX12_thief 74 = .ok (.iconst (-1), 1) := by decide +kernel
theorem dX12_thief_75 : decode cX12_thief 75 = .ok (.iand, 1) := by decide +kernel
theorem dX12_thief_76 : decode cX12_thief 76 = .ok (.istore_n 3, 1) := by decide +kernel
theorem dX12_thief_77 : decode cX12_thief 77 = .ok (.iinc 4 1, 3) := by decide +kernel
theorem dX12_thief_80 : decode cX12_thief 80 = .ok (.goto (-39), 3) := by decide +kernel
theorem dX12_thief_83 : decode cX12_thief 83 = .ok (.iconst 0, 1) := by decide +kernel
theorem dX12_thief_84 : decode cX12_thief 84 = .ok (.istore 4, 2) := by decide +kernel
theorem dX12_thief_86 : decode cX12_thief 86 = .ok (.iconst 0, 1) := by decide +kernel
theorem dX12_thief_87 : decode cX12_thief 87 = .ok (.istore 5, 2) := by decide +kernel
theorem dX12_thief_89 : decode cX12_thief 89 = .ok (.iload 5, 2) := by decide +kernel
theorem dX12_thief_91 : decode cX12_thief 91 = .ok (.iload_n 3, 1) := by decide +kernel
theorem dX12_thief_92 : decode cX12_thief 92 = .ok (.if_icmp .gt 81, 3) := by decide +kernel
theorem dX12_thief_95 : decode cX12_thief 95 = .ok (.iload 5, 2) := by decide +kernel
theorem dX12_thief_97 : decode cX12_thief 97 = .ok (.iload_n 3, 1) := by decide +kernel
theorem dX12_thief_98 : decode cX12_thief 98 = .ok (.iconst (-1), 1) := by decide +kernel
theorem dX12_thief_99 : decode cX12_thief 99 = .ok (.ixor, 1) := by decide +kernel
theorem dX12_thief_100 : decode cX12_thief 100 = .ok (.iand, 1) := by decide +kernel
theorem dX12_thief_101 : decode cX12_thief 101 = .ok (.ifCond .ne 66, 3) := by decide +kernel
theorem dX12_thief_104 : decode cX12_thief 104 = .ok (.aload_n 0, 1) := by decide +kernel
theorem dX12_thief_105 : decode cX12_thief 105 = .ok (.iload 5, 2) := by decide +kernel
theorem dX12_thief_107 : decode cX12_thief 107 = .ok (.iconst 0, 1) := by decide +kernel
theorem dX12_thief_108 : decode cX12_thief 108 = .ok (.invokevirtual 440, 3) := by decide +kernel
theorem dX12_thief_111 : decode cX12_thief 111 = .ok (.iload_n 2, 1) := by decide +kernel
theorem dX12_thief_112 : decode cX12_thief 112 = .ok (.if_icmp .le 6, 3) := by decide +kernel
theorem dX12_thief_115 : decode cX12_thief 115 = .ok (.goto 52, 3) := by decide +kernel
theorem dX12_thief_118 : decode cX12_thief 118 = .ok (.aload_n 0, 1) := by decide +kernel
theorem dX12_thief_119 : decode cX12_thief 119 = .ok (.iload 5, 2) := by decide +kernel
theorem dX12_thief_121 : decode cX12_thief 121 = .ok (.iconst 0, 1) := by decide +kernel
theorem dX12_thief_122 : decode cX12_thief 122 = .ok (.invokevirtual 440, 3) := by decide +kernel
theorem dX12_thief_125 : decode cX12_thief 125 = .ok (.aload_n 0, 1) := by decide +kernel
theorem dX12_thief_126 : decode cX12_thief 126 = .ok (.iload 4, 2) := by decide +kernel
theorem dX12_thief_128 : decode cX12_thief 128 = .ok (.iconst 0, 1) := by decide +kernel
theorem dX12_thief_129 : decode cX12_thief 129 = .ok (.invokevirtual 440, 3) := by decide +kernel
theorem dX12_thief_132 : decode cX12_thief 132 = .ok (.isub, 1) := by decide +kernel
theorem dX12_thief_133 : decode cX12_thief 133 = .ok (.istore 6, 2) := by decide +kernel
theorem dX12_thief_135 : decode cX12_thief 135 = .ok (.iload 6, 2) := by decide +kernel
theorem dX12_thief_137 : decode cX12_thief 137 = .ok (.ifCond .gt 21, 3) := by decide +kernel
theorem dX12_thief_140 : decode cX12_thief 140 = .ok (.iload 6, 2) := by decide +kernel
theorem dX12_thief_142 : decode cX12_thief 142 = .ok (.ifCond .ne 21, 3) := by decide +kernel
theorem dX12_thief_145 : decode cX12_thief 145 = .ok (.iload 5, 2) := by decide +kernel
theorem dX12_thief_147 : decode cX12_thief 147 = .ok (.invokestatic 317, 3) := by decide +kernel
theorem dX12_thief_150 : decode cX12_thief 150 = .ok (.iload 4, 2) := by decide +kernel
theorem dX12_thief_152 : decode cX12_thief 152 = .ok (.invokestatic 317, 3) := by decide +kernel
theorem dX12_thief_155 : decode cX12_thief 155 = .ok (.if_icmp .ge 8, 3) := by decide +kernel
theorem dX12_thief_158 : decode cX12_thief 158 = .ok (.iload 5, 2) := by decide +kernel
theorem dX12_thief_160 : decode cX12_thief 160 = .ok (.goto 5, 3) := by decide +kernel
theorem dX12_thief_163 : decode cX12_thief 163 = .ok (.iload 4, 2) := by decide +kernel
theorem dX12_thief_165 : decode cX12_thief 165 = .ok (.istore 4, 2) := by decide +kernel
theorem dX12_thief_167 : decode cX12_thief 167 = .ok (.iinc 5 1, 3) := by decide +kernel
theorem dX12_thief_170 : decode cX12_thief 170 = .ok (.goto (-81), 3) := by decide +kernel
theorem dX12_thief_173 : decode cX12_thief 173 = .ok (.iload 4, 2) := by decide +kernel
theorem dX12_thief_175 : decode cX12_thief 175 = .ok (.ireturn, 1) := by decide +kernel
theorem dX12_offBy_0 : decode cX12_offBy 0 = .ok (.aload_n 0, 1) := by decide +kernel
theorem dX12_offBy_1 : decode cX12_offBy 1 = .ok (.getfield 75, 3) := by decide +kernel
theorem dX12_offBy_4 : decode cX12_offBy 4 = .ok (.iconst 1, 1) := by decide +kernel
theorem dX12_offBy_5 : decode cX12_offBy 5 = .ok (.iload_n 1, 1) := by decide +kernel
theorem dX12_offBy_6 : decode cX12_offBy 6 = .ok (.iadd, 1) := by decide +kernel
theorem dX12_offBy_7 : decode cX12_offBy 7 = .ok (.iaload, 1) := by decide +kernel
theorem dX12_offBy_8 : decode cX12_offBy 8 = .ok (.aload_n 0, 1) := by decide +kernel
theorem dX12_offBy_9 : decode cX12_offBy 9 = .ok (.iload_n 2, 1) := by decide +kernel
theorem dX12_offBy_10 : decode cX12_offBy 10 = .ok (.iconst 0, 1) := by decide +kernel
theorem dX12_offBy_11 : decode cX12_offBy 11 = .ok (.invokevirtual 440, 3) := by decide +kernel
theorem dX12_offBy_14 : decode cX12_offBy 14 = .ok (.iadd, 1) := by decide +kernel
theorem dX12_offBy_15 : decode cX12_offBy 15 = .ok (.iconst 0, 1) := by decide +kernel
theorem dX12_offBy_16 : decode cX12_offBy 16 = .ok (.sipush 9999, 3) := by decide +kernel
theorem dX12_offBy_19 : decode cX12_offBy 19 = .ok (.invokestatic 311, 3) := by decide +kernel
theorem dX12_offBy_22 : decode cX12_offBy 22 = .ok (.aload_n 0, 1) := by decide +kernel
theorem dX12_offBy_23 : decode cX12_offBy 23 = .ok (.getfield 75, 3) := by decide +kernel
theorem dX12_offBy_26 : decode cX12_offBy 26 = .ok (.bipush 9, 2) := by decide +kernel
theorem dX12_offBy_28 : decode cX12_offBy 28 = .ok (.iload_n 1, 1) := by decide +kernel
theorem dX12_offBy_29 : decode cX12_offBy 29 = .ok (.iadd, 1) := by decide +kernel
theorem dX12_offBy_30 : decode cX12_offBy 30 = .ok (.iaload, 1) := by decide +kernel
theorem dX12_offBy_31 : decode cX12_offBy 31 = .ok (.aload_n 0, 1) := by decide +kernel
theorem dX12_offBy_32 : decode cX12_offBy 32 = .ok (.iload_n 2, 1) := by decide +kernel
theorem dX12_offBy_33 : decode cX12_offBy 33 = .ok (.iconst 1, 1) := by decide +kernel
theorem dX12_offBy_34 : decode cX12_offBy 34 = .ok (.invokevirtual 440, 3) := by decide +kernel
theorem dX12_offBy_37 : decode cX12_offBy 37 = .ok (.iadd, 1) := by decide +kernel
theorem dX12_offBy_38 : decode cX12_offBy 38 = .ok (.iconst 0, 1) := by decide +kernel
theorem dX12_offBy_39 : decode cX12_offBy 39 = .ok (.sipush 9999, 3) := by decide +kernel
theorem dX12_offBy_42 : decode cX12_offBy 42 = .ok (.invokestatic 311, 3) := by decide +kernel
theorem dX12_offBy_45 : decode cX12_offBy 45 = .ok (.isub, 1) := by decide +kernel
theorem dX12_offBy_46 : decode cX12_offBy 46 = .ok (.istore_n 3, 1) := by decide +kernel
theorem dX12_offBy_47 : decode cX12_offBy 47 = .ok (.iload_n 3, 1) := by decide +kernel
theorem dX12_offBy_48 : decode cX12_offBy 48 = .ok (.ifCond .ge 9, 3) := by decide +kernel
theorem dX12_offBy_51 : decode cX12_offBy 51 = .ok (.iconst 0, 1) := by decide +kernel
theorem dX12_offBy_52 : decode cX12_offBy 52 = .ok (.iload_n 3, 1) := by decide +kernel
theorem dX12_offBy_53 : decode cX12_offBy 53 = .ok (.isub, 1) := by decide +kernel
theorem dX12_offBy_54 : decode cX12_offBy 54 = .ok (.goto 4, 3) := by decide +kernel
theorem dX12_offBy_57 : decode cX12_offBy 57 = .ok (.iload_n 3, 1) := by decide +kernel
theorem dX12_offBy_58 : decode cX12_offBy 58 = .ok (.ireturn, 1) := by decide +kernel
theorem dX12_level_0 : decode cX12_level 0 = .ok (.aload_n 0, 1) := by decide +kernel
theorem dX12_level_1 : decode cX12_level 1 = .ok (.iconst 0, 1) := by decide +kernel
theorem dX12_level_2 : decode cX12_level 2 = .ok (.putfield 117, 3) := by decide +kernel
theorem dX12_level_5 : decode cX12_level 5 = .ok (.aload_n 0, 1) := by decide +kernel
theorem dX12_level_6 : decode cX12_level 6 = .ok (.iload_n 1, 1) := by decide +kernel
theorem dX12_level_7 : decode cX12_level 7 = .ok (.invokevirtual 362, 3) := by decide +kernel
theorem dX12_level_10 : decode cX12_level 10 = .ok (.ifCond .ne 5, 3) := by decide +kernel
theorem dX12_level_13 : decode cX12_level 13 = .ok (.iconst 0, 1) := by decide +kernel
theorem dX12_level_14 : decode cX12_level 14 = .ok (.ireturn, 1) := by decide +kernel
theorem dX12_level_15 : decode cX12_level 15 = .ok (.aload_n 0, 1) := by decide +kernel
theorem dX12_level_16 : decode cX12_level 16 = .ok (.iconst 0, 1) := by decide +kernel
theorem dX12_level_17 : decode cX12_level 17 = .ok (.iload_n 1, 1) := by decide +kernel
theorem dX12_level_18 : decode cX12_level 18 = .ok (.invokevirtual 314, 3) := by decide +kernel
theorem dX12_level_21 : decode cX12_level 21 = .ok (.istore_n 2, 1) := by decide +kernel
theorem dX12_level_22 : decode cX12_level 22 = .ok (.iconst 0, 1) := by decide +kernel
theorem dX12_level_23 : decode cX12_level 23 = .ok (.istore_n 3, 1) := by decide +kernel
theorem dX12_level_24 : decode cX12_level 24 = .ok (.iconst 0, 1) := by decide +kernel
theorem dX12_level_25 : decode cX12_level 25 = .ok (.istore 4, 2) := by decide +kernel
theorem dX12_level_27 : decode cX12_level 27 = .ok (.iload 4, 2) := by decide +kernel
theorem dX12_level_29 : decode cX12_level 29 = .ok (.iload_n 2, 1) := by decide +kernel
theorem dX12_level_30 : decode cX12_level 30 = .ok (.if_icmp .gt 66, 3) := by decide +kernel
theorem dX12_level_33 : decode cX12_level 33 = .ok (.iload 4, 2) := by decide +kernel
theorem dX12_level_35 : decode cX12_level 35 = .ok (.iload_n 2, 1) := by decide +kernel
theorem dX12_level_36 : decode cX12_level 36 = .ok (.iconst (-1), 1) := by decide +kernel
theorem dX12_level_37 : decode cX12_level 37 = .ok (.ixor, 1) := by decide +kernel
theorem dX12_level_38 : decode cX12_level 38 = .ok (.iand, 1) := by decide +kernel
theorem dX12_level_39 : decode cX12_level 39 = .ok (.ifCond .eq 6, 3) := by decide +kernel
theorem dX12_level_42 : decode cX12_level 42 = .ok (.goto 48, 3) := by decide +kernel
theorem dX12_level_45 : decode cX12_level 45 = .ok (.aload_n 0, 1) := by decide +kernel
theorem dX12_level_46 : decode cX12_level 46 = .ok (.iload_n 1, 1) := by decide +kernel
theorem dX12_level_47 : decode cX12_level 47 = .ok (.iload_n 3, 1) := by decide +kernel
theorem dX12_level_48 : decode cX12_level 48 = .ok (.invokevirtual 443, 3) := by decide +kernel
theorem dX12_level_51 : decode cX12_level 51 = .ok (.aload_n 0, 1) := by decide +kernel
theorem dX12_level_52 : decode cX12_level 52 = .ok (.iload_n 1, 1) := by decide +kernel
theorem dX12_level_53 : decode cX12_level 53 = .ok (.iload 4, 2) := by decide +kernel
theorem dX12_level_55 : decode cX12_level 55 = .ok (.invokevirtual 443, 3) := by decide +kernel
theorem dX12_level_58 : decode cX12_level 58 = .ok (.isub, 1) := by decide +kernel
theorem dX12_level_59 : decode cX12_level 59 = .ok (.istore 5, 2) := by decide +kernel
theorem dX12_level_61 : decode cX12_level 61 = .ok (.iload 5, 2) := by decide +kernel
theorem dX12_level_63 : decode cX12_level 63 = .ok (.ifCond .gt 20, 3) := by decide +kernel
theorem dX12_level_66 : decode cX12_level 66 = .ok (.iload 5, 2) := by decide +kernel
theorem dX12_level_68 : decode cX12_level 68 = .ok (.ifCond .ne 20, 3) := by decide +kernel
theorem dX12_level_71 : decode cX12_level 71 = .ok (.iload 4, 2) := by decide +kernel
theorem dX12_level_73 : decode cX12_level 73 = .ok (.invokestatic 317, 3) := by decide +kernel
theorem dX12_level_76 : decode cX12_level 76 = .ok (.iload_n 3, 1) := by decide +kernel
theorem dX12_level_77 : decode cX12_level 77 = .ok (.invokestatic 317, 3) := by decide +kernel
theorem dX12_level_80 : decode cX12_level 80 = .ok (.if_icmp .ge 8, 3) := by decide +kernel
theorem dX12_level_83 : decode cX12_level 83 = .ok (.iload 4, 2) := by decide +kernel
theorem dX12_level_85 : decode cX12_level 85 = .ok (.goto 4, 3) := by decide +kernel
theorem dX12_level_88 : decode cX12_level 88 = .ok (.iload_n 3, 1) := by decide +kernel
theorem dX12_level_89 : decode cX12_level 89 = .ok (.istore_n 3, 1) := by decide +kernel
theorem dX12_level_90 : decode cX12_level 90 = .ok (.iinc 4 1, 3) := by decide +kernel
theorem dX12_level_93 : decode cX12_level 93 = .ok (.goto (-66), 3) := by decide +kernel
theorem dX12_level_96 : decode cX12_level 96 = .ok (.iload_n 3, 1) := by decide +kernel
theorem dX12_level_97 : decode cX12_level 97 = .ok (.ireturn, 1) := by decide +kernel
theorem dX12_lend_0 : decode cX12_lend 0 = .ok (.aload_n 0, 1) := by decide +kernel
theorem dX12_lend_1 : decode cX12_lend 1 = .ok (.iconst 0, 1) := by decide +kernel
theorem dX12_lend_2 : decode cX12_lend 2 = .ok (.putfield 117, 3) := by decide +kernel
theorem dX12_lend_5 : decode cX12_lend 5 = .ok (.aload_n 0, 1) := by decide +kernel
theorem dX12_lend_6 : decode cX12_lend 6 = .ok (.iload_n 1, 1) := by decide +kernel
theorem dX12_lend_7 : decode cX12_lend 7 = .ok (.invokevirtual 362, 3) := by decide +kernel
theorem dX12_lend_10 : decode cX12_lend 10 = .ok (.ifCond .ne 5, 3) := by decide +kernel
theorem dX12_lend_13 : decode cX12_lend 13 = .ok (.iconst 0, 1) := by decide +kernel
theorem dX12_lend_14 : decode cX12_lend 14 = .ok (.ireturn, 1) := by decide +kernel
theorem dX12_lend_15 : decode cX12_lend 15 = .ok (.aload_n 0, 1) := by decide +kernel
theorem dX12_lend_16 : decode cX12_lend 16 = .ok (.iconst 0, 1) := by decide +kernel
theorem dX12_lend_17 : decode cX12_lend 17 = .ok (.iload_n 1, 1) := by decide +kernel
theorem dX12_lend_18 : decode cX12_lend 18 = .ok (.invokevirtual 336, 3) := by decide +kernel
theorem dX12_lend_21 : decode cX12_lend 21 = .ok (.bipush 7, 2) := by decide +kernel
theorem dX12_lend_23 : decode cX12_lend 23 = .ok (.if_icmp .ge 5, 3) := by decide +kernel
theorem dX12_lend_26 : decode cX12_lend 26 = .ok (.iconst (-1), 1) := by decide +kernel
theorem dX12_lend_27 : decode cX12_lend 27 = .ok (.ireturn, 1) := by decide +kernel
theorem dX12_lend_28 : decode cX12_lend 28 = .ok (.aload_n 0, 1) := by decide +kernel
theorem dX12_lend_29 : decode cX12_lend 29 = .ok (.invokevirtual 389, 3) := by decide +kernel
theorem dX12_lend_32 : decode cX12_lend 32 = .ok (.iconst 0, 1) := by decide +kernel
theorem dX12_lend_33 : decode cX12_lend 33 = .ok (.istore_n 2, 1) := by decide +kernel
theorem dX12_lend_34 : decode cX12_lend 34 = .ok (.iconst 0, 1) := by decide +kernel
theorem dX12_lend_35 : decode cX12_lend 35 = .ok (.istore_n 3, 1) := by decide +kernel
theorem dX12_lend_36 : decode cX12_lend 36 = .ok (.iload_n 3, 1) := by decide +kernel
theorem dX12_lend_37 : decode cX12_lend 37 = .ok (.aload_n 0, 1) := by decide +kernel
theorem dX12_lend_38 : decode cX12_lend 38 = .ok (.getfield 75, 3) := by decide +kernel
theorem dX12_lend_41 : decode cX12_lend 41 = .ok (.iconst 1, 1) := by decide +kernel
theorem dX12_lend_42 : decode cX12_lend 42 = .ok (.iload_n 1, 1) := by decide +kernel
theorem dX12_lend_43 : decode cX12_lend 43 = .ok (.iadd, 1) := by decide +kernel
theorem dX12_lend_44 : decode cX12_lend 44 = .ok (.iaload, 1) := by decide +kernel
theorem dX12_lend_45 : decode cX12_lend 45 = .ok (.if_icmp .gt 46, 3) := by decide +kernel
theorem dX12_lend_48 : decode cX12_lend 48 = .ok (.aload_n 0, 1) := by decide +kernel
theorem dX12_lend_49 : decode cX12_lend 49 = .ok (.getfield 75, 3) := by decide +kernel
theorem dX12_lend_52 : decode cX12_lend 52 = .ok (.bipush 86, 2) := by decide +kernel
theorem dX12_lend_54 : decode cX12_lend 54 = .ok (.iload_n 1, 1) := by decide +kernel
theorem dX12_lend_55 : decode cX12_lend 55 = .ok (.iadd, 1) := by decide +kernel
theorem dX12_lend_56 : decode cX12_lend 56 = .ok (.aload_n 0, 1) := by decide +kernel
theorem dX12_lend_57 : decode cX12_lend 57 = .ok (.getfield 75, 3) := by decide +kernel
theorem dX12_lend_60 : decode cX12_lend 60 = .ok (.iconst 1, 1) := by decide +kernel
theorem dX12_lend_61 : decode cX12_lend 61 = .ok (.iload_n 1, 1) := by decide +kernel
theorem dX12_lend_62 : decode cX12_lend 62 = .ok (.iadd, 1) := by decide +kernel
theorem dX12_lend_63 : decode cX12_lend 63 = .ok (.iaload, 1) := by decide +kernel
theorem dX12_lend_64 : decode cX12_lend 64 = .ok (.iload_n 3, 1) := by decide +kernel
theorem dX12_lend_65 : decode cX12_lend 65 = .ok (.isub, 1) := by decide +kernel
theorem dX12_lend_66 : decode cX12_lend 66 = .ok (.iastore, 1) := by decide +kernel
theorem dX12_lend_67 : decode cX12_lend 67 = .ok (.aload_n 0, 1) := by decide +kernel
theorem dX12_lend_68 : decode cX12_lend 68 = .ok (.bipush 85, 2) := by decide +kernel
theorem dX12_lend_70 : decode cX12_lend 70 = .ok (.iload_n 1, 1) := by decide +kernel
theorem dX12_lend_71 : decode cX12_lend 71 = .ok (.invokevirtual 336, 3) := by decide +kernel
theorem dX12_lend_74 : decode cX12_lend 74 = .ok (.bipush 7, 2) := by decide +kernel
theorem dX12_lend_76 : decode cX12_lend 76 = .ok (.if_icmp .lt 7, 3) := by decide +kernel
theorem dX12_lend_79 : decode cX12_lend 79 = .ok (.iload_n 3, 1) := by decide +kernel
theorem dX12_lend_80 : decode cX12_lend 80 = .ok (.goto 4, 3) := by decide +kernel
theorem dX12_lend_83 : decode cX12_lend 83 = .ok (.iload_n 2, 1) := by decide +kernel
theorem dX12_lend_84 : decode cX12_lend 84 = .ok (.istore_n 2, 1) := by decide +kernel
theorem dX12_lend_85 : decode cX12_lend 85 = .ok (.iinc 3 1, 3) := by decide +kernel
theorem dX12_lend_88 : decode cX12_lend 88 = .ok (.goto (-52), 3) := by decide +kernel
theorem dX12_lend_91 : decode cX12_lend 91 = .ok (.iload_n 2, 1) := by decide +kernel
theorem dX12_lend_92 : decode cX12_lend 92 = .ok (.ireturn, 1) := by decide +kernel
theorem dX12_image_0 : decode cX12_image 0 = .ok (.aload_n 0, 1) := by decide +kernel
theorem dX12_image_1 : decode cX12_image 1 = .ok (.iconst 0, 1) := by decide +kernel
theorem dX12_image_2 : decode cX12_image 2 = .ok (.putfield 117, 3) := by decide +kernel
theorem dX12_image_5 : decode cX12_image 5 = .ok (.aload_n 0, 1) := by decide +kernel
theorem dX12_image_6 : decode cX12_image 6 = .ok (.iconst 1, 1) := by decide +kernel
theorem dX12_image_7 : decode cX12_image 7 = .ok (.putfield 300, 3) := by decide +kernel
theorem dX12_image_10 : decode cX12_image 10 = .ok (.aload_n 0, 1) := by decide +kernel
theorem dX12_image_11 : decode cX12_image 11 = .ok (.aload_n 0, 1) := by decide +kernel
theorem dX12_image_12 : decode cX12_image 12 = .ok (.getfield 294, 3) := by decide +kernel
theorem dX12_image_15 : decode cX12_image 15 = .ok (.putfield 446, 3) := by decide +kernel
theorem dX12_image_18 : decode cX12_image 18 = .ok (.aload_n 0, 1) := by decide +kernel
theorem dX12_image_19 : decode cX12_image 19 = .ok (.aload_n 0, 1) := by decide +kernel
theorem dX12_image_20 : decode cX12_image 20 = .ok (.getfield 297, 3) := by decide +kernel
theorem dX12_image_23 : decode cX12_image 23 = .ok (.putfield 449, 3) := by decide +kernel
theorem dX12_image_26 : decode cX12_image 26 = .ok (.iconst 0, 1) := by decide +kernel
theorem dX12_image_27 : decode cX12_image 27 = .ok (.istore_n 1, 1) := by decide +kernel
theorem dX12_image_28 : decode cX12_image 28 = .ok (.iload_n 1, 1) := by decide +kernel
theorem dX12_image_29 : decode cX12_image 29 = .ok (.bipush 85, 2) := by decide +kernel
theorem dX12_image_31 : decode cX12_image 31 = .ok (.if_icmp .ge 21, 3) := by decide +kernel
theorem dX12_image_34 : decode cX12_image 34 = .ok (.aload_n 0, 1) := by decide +kernel
theorem dX12_image_35 : decode cX12_image 35 = .ok (.getfield 108, 3) := by decide +kernel
theorem dX12_image_38 : decode cX12_image 38 = .ok (.iload_n 1, 1) := by decide +kernel
theorem dX12_image_39 : decode cX12_image 39 = .ok (.aload_n 0, 1) := by decide +kernel
theorem dX12_image_40 : decode cX12_image 40 = .ok (.getfield 75, 3) := by decide +kernel
theorem dX12_image_43 : decode cX12_image 43 = .ok (.iload_n 1, 1) := by decide +kernel
theorem dX12_image_44 : decode cX12_image 44 = .ok (.iaload, 1) := by decide +kernel
theorem dX12_image_45 : decode cX12_image 45 = .ok (.iastore, 1) := by decide +kernel
theorem dX12_image_46 : decode cX12_image 46 = .ok (.iinc 1 1, 3) := by decide +kernel
theorem dX12_image_49 : decode cX12_image 49 = .ok (.goto (-21), 3) := by decide +kernel
theorem dX12_image_52 : decode cX12_image 52 = .ok (.aload_n 0, 1) := by decide +kernel
theorem dX12_image_53 : decode cX12_image 53 = .ok (.aload_n 0, 1) := by decide +kernel
theorem dX12_image_54 : decode cX12_image 54 = .ok (.getfield 78, 3) := by decide +kernel
theorem dX12_image_57 : decode cX12_image 57 = .ok (.aload_n 0, 1) := by decide +kernel
theorem dX12_image_58 : decode cX12_image 58 = .ok (.getfield 111, 3) := by decide +kernel
theorem dX12_image_61 : decode cX12_image 61 = .ok (.invokevirtual 290, 3) := by decide +kernel
theorem dX12_image_64 : decode cX12_image 64 = .ok (.aload_n 0, 1) := by decide +kernel
theorem dX12_image_65 : decode cX12_image 65 = .ok (.aload_n 0, 1) := by decide +kernel
theorem dX12_image_66 : decode cX12_image 66 = .ok (.getfield 99, 3) := by decide +kernel
theorem dX12_image_69 : decode cX12_image 69 = .ok (.aload_n 0, 1) := by decide +kernel
theorem dX12_image_70 : decode cX12_image 70 = .ok (.getfield 114, 3) := by decide +kernel
theorem dX12_image_73 : decode cX12_image 73 = .ok (.invokevirtual 290, 3) := by decide +kernel
theorem dX12_image_76 : decode cX12_image 76 = .ok (.return_, 1) := by decide +kernel
theorem dX12_restore_0 : decode cX12_restore 0 = .ok (.aload_n 0, 1) := by decide +kernel
theorem dX12_restore_1 : decode cX12_restore 1 = .ok (.iconst 0, 1) := by decide +kernel
theorem dX12_restore_2 : decode cX12_restore 2 = .ok (.putfield 117, 3) := by decide +kernel
theorem dX12_restore_5 : decode cX12_restore 5 = .ok (.aload_n 0, 1) := by decide +kernel
theorem dX12_restore_6 : decode cX12_restore 6 = .ok (.getfield 300, 3) := by decide +kernel
theorem dX12_restore_9 : decode cX12_restore 9 = .ok (.ifCond .ne 5, 3) := by decide +kernel
theorem dX12_restore_12 : decode cX12_restore 12 = .ok (.iconst 0, 1) := by decide +kernel
theorem dX12_restore_13 : decode cX12_restore 13 = .ok (.ireturn, 1) := by decide +kernel
theorem dX12_restore_14 : decode cX12_restore 14 = .ok (.aload_n 0, 1) := by decide +kernel
theorem dX12_restore_15 : decode cX12_restore 15 = .ok (.aload_n 0, 1) := by decide +kernel
theorem dX12_restore_16 : decode cX12_restore 16 = .ok (.getfield 446, 3) := by decide +kernel
theorem dX12_restore_19 : decode cX12_restore 19 = .ok (.putfield 294, 3) := by decide +kernel
theorem dX12_restore_22 : decode cX12_restore 22 = .ok (.aload_n 0, 1) := by decide +kernel
theorem dX12_restore_23 : decode cX12_restore 23 = .ok (.aload_n 0, 1) := by decide +kernel
theorem dX12_restore_24 : decode cX12_restore 24 = .ok (.getfield 449, 3) := by decide +kernel
theorem dX12_restore_27 : decode cX12_restore 27 = .ok (.putfield 297, 3) := by decide +kernel
theorem dX12_restore_30 : decode cX12_restore 30 = .ok (.iconst 0, 1) := by decide +kernel
theorem dX12_restore_31 : decode cX12_restore 31 = .ok (.istore_n 1, 1) := by decide +kernel
theorem dX12_restore_32 : decode cX12_restore 32 = .ok (.iload_n 1, 1) := by decide +kernel
theorem dX12_restore_33 : decode cX12_restore 33 = .ok (.bipush 85, 2) := by decide +kernel
theorem dX12_restore_35 : decode cX12_restore 35 = .ok (.if_icmp .ge 21, 3) := by decide +kernel
theorem dX12_restore_38 : decode cX12_restore 38 = .ok (.aload_n 0, 1) := by decide +kernel
theorem dX12_restore_39 : decode cX12_restore 39 = .ok (.getfield 75, 3) := by decide +kernel
theorem dX12_restore_42 : decode cX12_restore 42 = .ok (.iload_n 1, 1) := by decide +kernel
theorem dX12_restore_43 : decode cX12_restore 43 = .ok (.aload_n 0, 1) := by decide +kernel
theorem dX12_restore_44 : decode cX12_restore 44 = .ok (.getfield 108, 3) := by decide +kernel
theorem dX12_restore_47 : decode cX12_restore 47 = .ok (.iload_n 1, 1) := by decide +kernel
theorem dX12_restore_48 : decode cX12_restore 48 = .ok (.iaload, 1) := by decide +kernel
theorem dX12_restore_49 : decode cX12_restore 49 = .ok (.iastore, 1) := by decide +kernel
theorem dX12_restore_50 : decode cX12_restore 50 = .ok (.iinc 1 1, 3) := by decide +kernel
theorem dX12_restore_53 : decode cX12_restore 53 = .ok (.goto (-21), 3) := by decide +kernel
theorem dX12_restore_56 : decode cX12_restore 56 = .ok (.aload_n 0, 1) := by decide +kernel
theorem dX12_restore_57 : decode cX12_restore 57 = .ok (.aload_n 0, 1) := by decide +kernel
theorem dX12_restore_58 : decode cX12_restore 58 = .ok (.getfield 111, 3) := by decide +kernel
theorem dX12_restore_61 : decode cX12_restore 61 = .ok (.aload_n 0, 1) := by decide +kernel
theorem dX12_restore_62 : decode cX12_restore 62 = .ok (.getfield 78, 3) := by decide +kernel
theorem dX12_restore_65 : decode cX12_restore 65 = .ok (.invokevirtual 290, 3) := by decide +kernel
theorem dX12_restore_68 : decode cX12_restore 68 = .ok (.aload_n 0, 1) := by decide +kernel
theorem dX12_restore_69 : decode cX12_restore 69 = .ok (.aload_n 0, 1) := by decide +kernel
theorem dX12_restore_70 : decode cX12_restore 70 = .ok (.getfield 114, 3) := by decide +kernel
theorem dX12_restore_73 : decode cX12_restore 73 = .ok (.aload_n 0, 1) := by decide +kernel
theorem dX12_restore_74 : decode cX12_restore 74 = .ok (.getfield 99, 3) := by decide +kernel
theorem dX12_restore_77 : decode cX12_restore 77 = .ok (.invokevirtual 290, 3) := by decide +kernel
theorem dX12_restore_80 : decode cX12_restore 80 = .ok (.iconst 1, 1) := by decide +kernel
theorem dX12_restore_81 : decode cX12_restore 81 = .ok (.ireturn, 1) := by decide +kernel
