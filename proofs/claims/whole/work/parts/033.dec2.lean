theorem dX12_opens_63 : decode cX12_opens 63 = .ok (.invokestatic 311, 3) := by decide +kernel
theorem dX12_opens_66 : decode cX12_opens 66 = .ok (.iastore, 1) := by decide +kernel
theorem dX12_opens_67 : decode cX12_opens 67 = .ok (.aload_n 0, 1) := by decide +kernel
theorem dX12_opens_68 : decode cX12_opens 68 = .ok (.getfield 75, 3) := by decide +kernel
theorem dX12_opens_71 : decode cX12_opens 71 = .ok (.iload_n 1, 1) := by decide +kernel
theorem dX12_opens_72 : decode cX12_opens 72 = .ok (.bipush 25, 2) := by decide +kernel
theorem dX12_opens_74 : decode cX12_opens 74 = .ok (.iadd, 1) := by decide +kernel
theorem dX12_opens_75 : decode cX12_opens 75 = .ok (.iload_n 2, 1) := by decide +kernel
theorem dX12_opens_76 : decode cX12_opens 76 = .ok (.iadd, 1) := by decide +kernel
theorem dX12_opens_77 : decode cX12_opens 77 = .ok (.iconst 0, 1) := by decide +kernel
theorem dX12_opens_78 : decode cX12_opens 78 = .ok (.iastore, 1) := by decide +kernel
theorem dX12_opens_79 : decode cX12_opens 79 = .ok (.aload_n 0, 1) := by decide +kernel
theorem dX12_opens_80 : decode cX12_opens 80 = .ok (.getfield 75, 3) := by decide +kernel
theorem dX12_opens_83 : decode cX12_opens 83 = .ok (.iload_n 1, 1) := by decide +kernel
theorem dX12_opens_84 : decode cX12_opens 84 = .ok (.bipush 55, 2) := by decide +kernel
theorem dX12_opens_86 : decode cX12_opens 86 = .ok (.iadd, 1) := by decide +kernel
theorem dX12_opens_87 : decode cX12_opens 87 = .ok (.iload_n 2, 1) := by decide +kernel
theorem dX12_opens_88 : decode cX12_opens 88 = .ok (.iadd, 1) := by decide +kernel
theorem dX12_opens_89 : decode cX12_opens 89 = .ok (.iconst (-1), 1) := by decide +kernel
theorem dX12_opens_90 : decode cX12_opens 90 = .ok (.iastore, 1) := by decide +kernel
theorem dX12_opens_91 : decode cX12_opens 91 = .ok (.return_, 1) := by decide +kernel
theorem dX12_open_0 : decode cX12_open 0 = .ok (.aload_n 0, 1) := by decide +kernel
theorem dX12_open_1 : decode cX12_open 1 = .ok (.iconst 0, 1) := by decide +kernel
theorem dX12_open_2 : decode cX12_open 2 = .ok (.putfield 117, 3) := by decide +kernel
theorem dX12_open_5 : decode cX12_open 5 = .ok (.aload_n 0, 1) := by decide +kernel
theorem dX12_open_6 : decode cX12_open 6 = .ok (.iload_n 1, 1) := by decide +kernel
theorem dX12_open_7 : decode cX12_open 7 = .ok (.invokevirtual 368, 3) := by decide +kernel
theorem dX12_open_10 : decode cX12_open 10 = .ok (.ifCond .ne 5, 3) := by decide +kernel
theorem dX12_open_13 : decode cX12_open 13 = .ok (.iconst 0, 1) := by decide +kernel
theorem dX12_open_14 : decode cX12_open 14 = .ok (.ireturn, 1) := by decide +kernel
theorem dX12_open_15 : decode cX12_open 15 = .ok (.aload_n 0, 1) := by decide +kernel
theorem dX12_open_16 : decode cX12_open 16 = .ok (.iconst 0, 1) := by decide +kernel
theorem dX12_open_17 : decode cX12_open 17 = .ok (.iload_n 1, 1) := by decide +kernel
theorem dX12_open_18 : decode cX12_open 18 = .ok (.invokevirtual 308, 3) := by decide +kernel
theorem dX12_open_21 : decode cX12_open 21 = .ok (.ifCond .ne 9, 3) := by decide +kernel
theorem dX12_open_24 : decode cX12_open 24 = .ok (.aload_n 0, 1) := by decide +kernel
theorem dX12_open_25 : decode cX12_open 25 = .ok (.iconst 1, 1) := by decide +kernel
theorem dX12_open_26 : decode cX12_open 26 = .ok (.invokevirtual 371, 3) := by decide +kernel
theorem dX12_open_29 : decode cX12_open 29 = .ok (.ireturn, 1) := by decide +kernel
theorem dX12_open_30 : decode cX12_open 30 = .ok (.aload_n 0, 1) := by decide +kernel
theorem dX12_open_31 : decode cX12_open 31 = .ok (.invokevirtual 374, 3) := by decide +kernel
theorem dX12_open_34 : decode cX12_open 34 = .ok (.aload_n 0, 1) := by decide +kernel
theorem dX12_open_35 : decode cX12_open 35 = .ok (.getfield 75, 3) := by decide +kernel
theorem dX12_open_38 : decode cX12_open 38 = .ok (.bipush 25, 2) := by decide +kernel
theorem dX12_open_40 : decode cX12_open 40 = .ok (.iload_n 1, 1) := by decide +kernel
theorem dX12_open_41 : decode cX12_open 41 = .ok (.iadd, 1) := by decide +kernel
theorem dX12_open_42 : decode cX12_open 42 = .ok (.iaload, 1) := by decide +kernel
theorem dX12_open_43 : decode cX12_open 43 = .ok (.istore_n 2, 1) := by decide +kernel
theorem dX12_open_44 : decode cX12_open 44 = .ok (.aload_n 0, 1) := by decide +kernel
theorem dX12_open_45 : decode cX12_open 45 = .ok (.iconst 0, 1) := by decide +kernel
theorem dX12_open_46 : decode cX12_open 46 = .ok (.iload_n 1, 1) := by decide +kernel
theorem dX12_open_47 : decode cX12_open 47 = .ok (.invokevirtual 383, 3) := by decide +kernel
theorem dX12_open_50 : decode cX12_open 50 = .ok (.iload_n 2, 1) := by decide +kernel
theorem dX12_open_51 : decode cX12_open 51 = .ok (.ireturn, 1) := by decide +kernel
theorem dX12_cat_0 : decode cX12_cat 0 = .ok (.aload_n 0, 1) := by decide +kernel
theorem dX12_cat_1 : decode cX12_cat 1 = .ok (.iconst 0, 1) := by decide +kernel
theorem dX12_cat_2 : decode cX12_cat 2 = .ok (.putfield 117, 3) := by decide +kernel
theorem dX12_cat_5 : decode cX12_cat 5 = .ok (.aload_n 0, 1) := by decide +kernel
theorem dX12_cat_6 : decode cX12_cat 6 = .ok (.iload_n 1, 1) := by decide +kernel
theorem dX12_cat_7 : decode cX12_cat 7 = .ok (.invokevirtual 368, 3) := by decide +kernel
theorem dX12_cat_10 : decode cX12_cat 10 = .ok (.ifCond .ne 5, 3) := by decide +kernel
theorem dX12_cat_13 : decode cX12_cat 13 = .ok (.iconst 0, 1) := by decide +kernel
theorem dX12_cat_14 : decode cX12_cat 14 = .ok (.ireturn, 1) := by decide +kernel
theorem dX12_cat_15 : decode cX12_cat 15 = .ok (.iload_n 2, 1) := by decide +kernel
theorem dX12_cat_16 : decode cX12_cat 16 = .ok (.ifCond .eq 7, 3) := by decide +kernel
theorem dX12_cat_19 : decode cX12_cat 19 = .ok (.iconst 1, 1) := by decide +kernel
theorem dX12_cat_20 : decode cX12_cat 20 = .ok (.goto 4, 3) := by decide +kernel
theorem dX12_cat_23 : decode cX12_cat 23 = .ok (.iconst 0, 1) := by decide +kernel
theorem dX12_cat_24 : decode cX12_cat 24 = .ok (.istore_n 3, 1) := by decide +kernel
theorem dX12_cat_25 : decode cX12_cat 25 = .ok (.aload_n 0, 1) := by decide +kernel
theorem dX12_cat_26 : decode cX12_cat 26 = .ok (.getfield 75, 3) := by decide +kernel
theorem dX12_cat_29 : decode cX12_cat 29 = .ok (.bipush 55, 2) := by decide +kernel
theorem dX12_cat_31 : decode cX12_cat 31 = .ok (.iload_n 1, 1) := by decide +kernel
theorem dX12_cat_32 : decode cX12_cat 32 = .ok (.iadd, 1) := by decide +kernel
theorem dX12_cat_33 : decode cX12_cat 33 = .ok (.iaload, 1) := by decide +kernel
theorem dX12_cat_34 : decode cX12_cat 34 = .ok (.iconst (-1), 1) := by decide +kernel
theorem dX12_cat_35 : decode cX12_cat 35 = .ok (.if_icmp .eq 16, 3) := by decide +kernel
theorem dX12_cat_38 : decode cX12_cat 38 = .ok (.aload_n 0, 1) := by decide +kernel
theorem dX12_cat_39 : decode cX12_cat 39 = .ok (.getfield 75, 3) := by decide +kernel
theorem dX12_cat_42 : decode cX12_cat 42 = .ok (.bipush 45, 2) := by decide +kernel
theorem dX12_cat_44 : decode cX12_cat 44 = .ok (.iload_n 1, 1) := by decide +kernel
theorem dX12_cat_45 : decode cX12_cat 45 = .ok (.iadd, 1) := by decide +kernel
theorem dX12_cat_46 : decode cX12_cat 46 = .ok (.iaload, 1) := by decide +kernel
theorem dX12_cat_47 : decode cX12_cat 47 = .ok (.iload_n 3, 1) := by decide +kernel
theorem dX12_cat_48 : decode cX12_cat 48 = .ok (.if_icmp .ne 17, 3) := by decide +kernel
theorem dX12_cat_51 : decode cX12_cat 51 = .ok (.aload_n 0, 1) := by decide +kernel
theorem dX12_cat_52 : decode cX12_cat 52 = .ok (.iconst 1, 1) := by decide +kernel
theorem dX12_cat_53 : decode cX12_cat 53 = .ok (.invokevirtual 371, 3) := by decide +kernel
theorem dX12_cat_56 : decode cX12_cat 56 = .ok (.ifCond .le 7, 3) := by decide +kernel
theorem dX12_cat_59 : decode cX12_cat 59 = .ok (.iconst 1, 1) := by decide +kernel
theorem dX12_cat_60 : decode cX12_cat 60 = .ok (.goto 4, 3) := by decide +kernel
theorem dX12_cat_63 : decode cX12_cat 63 = .ok (.iconst 0, 1) := by decide +kernel
theorem dX12_cat_64 : decode cX12_cat 64 = .ok (.ireturn, 1) := by decide +kernel
theorem dX12_cat_65 : decode cX12_cat 65 = .ok (.aload_n 0, 1) := by decide +kernel
theorem dX12_cat_66 : decode cX12_cat 66 = .ok (.invokevirtual 374, 3) := by decide +kernel
theorem dX12_cat_69 : decode cX12_cat 69 = .ok (.aload_n 0, 1) := by decide +kernel
theorem dX12_cat_70 : decode cX12_cat 70 = .ok (.getfield 75, 3) := by decide +kernel
theorem dX12_cat_73 : decode cX12_cat 73 = .ok (.bipush 45, 2) := by decide +kernel
theorem dX12_cat_75 : decode cX12_cat 75 = .ok (.iload_n 1, 1) := by decide +kernel
theorem dX12_cat_76 : decode cX12_cat 76 = .ok (.iadd, 1) := by decide +kernel
theorem dX12_cat_77 : decode cX12_cat 77 = .ok (.iload_n 3, 1) := by decide +kernel
theorem dX12_cat_78 : decode cX12_cat 78 = .ok (.iastore, 1) := by decide +kernel
theorem dX12_cat_79 : decode cX12_cat 79 = .ok (.iconst 1, 1) := by decide +kernel
theorem dX12_cat_80 : decode cX12_cat 80 = .ok (.ireturn, 1) := by decide +kernel
theorem dX12_mix_0 : decode cX12_mix 0 = .ok (.aload_n 0, 1) := by decide +kernel
theorem dX12_mix_1 : decode cX12_mix 1 = .ok (.iconst 0, 1) := by decide +kernel
theorem dX12_mix_2 : decode cX12_mix 2 = .ok (.putfield 117, 3) := by decide +kernel
theorem dX12_mix_5 : decode cX12_mix 5 = .ok (.aload_n 0, 1) := by decide +kernel
theorem dX12_mix_6 : decode cX12_mix 6 = .ok (.iload_n 1, 1) := by decide +kernel
theorem dX12_mix_7 : decode cX12_mix 7 = .ok (.invokevirtual 368, 3) := by decide +kernel
theorem dX12_mix_10 : decode cX12_mix 10 = .ok (.ifCond .eq 11, 3) := by decide +kernel
theorem dX12_mix_13 : decode cX12_mix 13 = .ok (.aload_n 0, 1) := by decide +kernel
theorem dX12_mix_14 : decode cX12_mix 14 = .ok (.iload_n 2, 1) := by decide +kernel
theorem dX12_mix_15 : decode cX12_mix 15 = .ok (.invokevirtual 368, 3) := by decide +kernel
theorem dX12_mix_18 : decode cX12_mix 18 = .ok (.ifCond .ne 5, 3) := by decide +kernel
theorem dX12_mix_21 : decode cX12_mix 21 = .ok (.iconst 0, 1) := by decide +kernel
theorem dX12_mix_22 : decode cX12_mix 22 = .ok (.ireturn, 1) := by decide +kernel
theorem dX12_mix_23 : decode cX12_mix 23 = .ok (.iload_n 1, 1) := by decide +kernel
theorem dX12_mix_24 : decode cX12_mix 24 = .ok (.iload_n 2, 1) := by decide +kernel
theorem dX12_mix_25 : decode cX12_mix 25 = .ok (.if_icmp .eq 42, 3) := by decide +kernel
theorem dX12_mix_28 : decode cX12_mix 28 = .ok (.aload_n 0, 1) := by decide +kernel
theorem dX12_mix_29 : decode cX12_mix 29 = .ok (.iconst 0, 1) := by decide +kernel
theorem dX12_mix_30 : decode cX12_mix 30 = .ok (.iload_n 1, 1) := by decide +kernel
theorem dX12_mix_31 : decode cX12_mix 31 = .ok (.invokevirtual 308, 3) := by decide +kernel
theorem dX12_mix_34 : decode cX12_mix 34 = .ok (.ifCond .eq 33, 3) := by decide +kernel
theorem dX12_mix_37 : decode cX12_mix 37 = .ok (.aload_n 0, 1) := by decide +kernel
theorem dX12_mix_38 : decode cX12_mix 38 = .ok (.iconst 0, 1) := by decide +kernel
theorem dX12_mix_39 : decode cX12_mix 39 = .ok (.iload_n 2, 1) := by decide +kernel
theorem dX12_mix_40 : decode cX12_mix 40 = .ok (.invokevirtual 308, 3) := by decide +kernel
theorem dX12_mix_43 : decode cX12_mix 43 = .ok (.ifCond .eq 24, 3) := by decide +kernel
theorem dX12_mix_46 : decode cX12_mix 46 = .ok (.aload_n 0, 1) := by decide +kernel
theorem dX12_mix_47 : decode cX12_mix 47 = .ok (.getfield 75, 3) := by decide +kernel
theorem dX12_mix_50 : decode cX12_mix 50 = .ok (.bipush 55, 2) := by decide +kernel
theorem dX12_mix_52 : decode cX12_mix 52 = .ok (.iload_n 1, 1) := by decide +kernel
theorem dX12_mix_53 : decode cX12_mix 53 = .ok (.iadd, 1) := by decide +kernel
theorem dX12_mix_54 : decode cX12_mix 54 = .ok (.iaload, 1) := by decide +kernel
theorem dX12_mix_55 : decode cX12_mix 55 = .ok (.aload_n 0, 1) := by decide +kernel
theorem dX12_mix_56 : decode cX12_mix 56 = .ok (.getfield 75, 3) := by decide +kernel
theorem dX12_mix_59 : decode cX12_mix 59 = .ok (.bipush 55, 2) := by decide +kernel
theorem dX12_mix_61 : decode cX12_mix 61 = .ok (.iload_n 2, 1) := by decide +kernel
theorem dX12_mix_62 : decode cX12_mix 62 = .ok (.iadd, 1) := by decide +kernel
theorem dX12_mix_63 : decode cX12_mix 63 = .ok (.iaload, 1) := by decide +kernel
theorem dX12_mix_64 : decode cX12_mix 64 = .ok (.if_icmp .eq 9, 3) := by decide +kernel
theorem dX12_mix_67 : decode cX12_mix 67 = .ok (.aload_n 0, 1) := by decide +kernel
theorem dX12_mix_68 : decode cX12_mix 68 = .ok (.iconst 1, 1) := by decide +kernel
theorem dX12_mix_69 : decode cX12_mix 69 = .ok (.invokevirtual 371, 3) := by decide +kernel
theorem dX12_mix_72 : decode cX12_mix 72 = .ok (.ireturn, 1) := by decide +kernel
theorem dX12_mix_73 : decode cX12_mix 73 = .ok (.aload_n 0, 1) := by decide +kernel
theorem dX12_mix_74 : decode cX12_mix 74 = .ok (.invokevirtual 374, 3) := by decide +kernel
theorem dX12_mix_77 : decode cX12_mix 77 = .ok (.aload_n 0, 1) := by decide +kernel
theorem dX12_mix_78 : decode cX12_mix 78 = .ok (.getfield 75, 3) := by decide +kernel
theorem dX12_mix_81 : decode cX12_mix 81 = .ok (.bipush 25, 2) := by decide +kernel
theorem dX12_mix_83 : decode cX12_mix 83 = .ok (.iload_n 1, 1) := by decide +kernel
theorem dX12_mix_84 : decode cX12_mix 84 = .ok (.iadd, 1) := by decide +kernel
theorem dX12_mix_85 : decode cX12_mix 85 = .ok (.iaload, 1) := by decide +kernel
theorem dX12_mix_86 : decode cX12_mix 86 = .ok (.istore_n 3, 1) := by decide +kernel
theorem dX12_mix_87 : decode cX12_mix 87 = .ok (.aload_n 0, 1) := by decide +kernel
theorem dX12_mix_88 : decode cX12_mix 88 = .ok (.getfield 75, 3) := by decide +kernel
theorem dX12_mix_91 : decode cX12_mix 91 = .ok (.bipush 25, 2) := by decide +kernel
theorem dX12_mix_93 : decode cX12_mix 93 = .ok (.iload_n 2, 1) := by decide +kernel
theorem dX12_mix_94 : decode cX12_mix 94 = .ok (.iadd, 1) := by decide +kernel
theorem dX12_mix_95 : decode cX12_mix 95 = .ok (.iaload, 1) := by decide +kernel
theorem dX12_mix_96 : decode cX12_mix 96 = .ok (.istore 4, 2) := by decide +kernel
theorem dX12_mix_98 : decode cX12_mix 98 = .ok (.aload_n 0, 1) := by decide +kernel
theorem dX12_mix_99 : decode cX12_mix 99 = .ok (.getfield 75, 3) := by decide +kernel
theorem dX12_mix_102 : decode cX12_mix 102 = .ok (.bipush 35, 2) := by decide +kernel
theorem dX12_mix_104 : decode cX12_mix 104 = .ok (.iload_n 1, 1) := by decide +kernel
theorem dX12_mix_105 : decode cX12_mix 105 = .ok (.iadd, 1) := by decide +kernel
theorem dX12_mix_106 : decode cX12_mix 106 = .ok (.iaload, 1) := by decide +kernel
theorem dX12_mix_107 : decode cX12_mix 107 = .ok (.aload_n 0, 1) := by decide +kernel
theorem dX12_mix_108 : decode cX12_mix 108 = .ok (.getfield 75, 3) := by decide +kernel
theorem dX12_mix_111 : decode cX12_mix 111 = .ok (.bipush 35, 2) := by decide +kernel
theorem dX12_mix_113 : decode cX12_mix 113 = .ok (.iload_n 2, 1) := by decide +kernel
theorem dX12_mix_114 : decode cX12_mix 114 = .ok (.iadd, 1) := by decide +kernel
theorem dX12_mix_115 : decode cX12_mix 115 = .ok (.iaload, 1) := by decide +kernel
theorem dX12_mix_116 : decode cX12_mix 116 = .ok (.if_icmp .ne 7, 3) := by decide +kernel
theorem dX12_mix_119 : decode cX12_mix 119 = .ok (.iconst 1, 1) := by decide +kernel
theorem dX12_mix_120 : decode cX12_mix 120 = .ok (.goto 4, 3) := by decide +kernel
theorem dX12_mix_123 : decode cX12_mix 123 = .ok (.iconst 0, 1) := by decide +kernel
theorem dX12_mix_124 : decode cX12_mix 124 = .ok (.istore 5, 2) := by decide +kernel
theorem dX12_mix_126 : decode cX12_mix 126 = .ok (.iload 5, 2) := by decide +kernel
theorem dX12_mix_128 : decode cX12_mix 128 = .ok (.ifCond .ne 27, 3) := by decide +kernel
theorem dX12_mix_131 : decode cX12_mix 131 = .ok (.iload 4, 2) := by decide +kernel
theorem dX12_mix_133 : decode cX12_mix 133 = .ok (.iload_n 3, 1) := by decide +kernel
theorem dX12_mix_134 : decode cX12_mix 134 = .ok (.if_icmp .le 21, 3) := by decide +kernel
theorem dX12_mix_137 : decode cX12_mix 137 = .ok (.aload_n 0, 1) := by decide +kernel
theorem dX12_mix_138 : decode cX12_mix 138 = .ok (.getfield 75, 3) := by decide +kernel
theorem dX12_mix_141 : decode cX12_mix 141 = .ok (.bipush 35, 2) := by decide +kernel
theorem dX12_mix_143 : decode cX12_mix 143 = .ok (.iload_n 1, 1) := by decide +kernel
theorem dX12_mix_144 : decode cX12_mix 144 = .ok (.iadd, 1) := by decide +kernel
theorem dX12_mix_145 : decode cX12_mix 145 = .ok (.aload_n 0, 1) := by decide +kernel
theorem dX12_mix_146 : decode cX12_mix 146 = .ok (.getfield 75, 3) := by decide +kernel
theorem dX12_mix_149 : decode cX12_mix 149 = .ok (.bipush 35, 2) := by decide +kernel
theorem dX12_mix_151 : decode cX12_mix 151 = .ok (.iload_n 2, 1) := by decide +kernel
theorem dX12_mix_152 : decode cX12_mix 152 = .ok (.iadd, 1) := by decide +kernel
theorem dX12_mix_153 : decode cX12_mix 153 = .ok (.iaload, 1) := by decide +kernel
theorem dX12_mix_154 : decode cX12_mix 154 = .ok (.iastore, 1) := by decide +kernel
theorem dX12_mix_155 : decode cX12_mix 155 = .ok (.aload_n 0, 1) := by decide +kernel
theorem dX12_mix_156 : decode cX12_mix 156 = .ok (.getfield 75, 3) := by decide +kernel
theorem dX12_mix_159 : decode cX12_mix 159 = .ok (.bipush 25, 2) := by decide +kernel
theorem dX12_mix_161 : decode cX12_mix 161 = .ok (.iload_n 1, 1) := by decide +kernel
theorem dX12_mix_162 : decode cX12_mix 162 = .ok (.iadd, 1) := by decide +kernel
theorem dX12_mix_163 : decode cX12_mix 163 = .ok (.iload 5, 2) := by decide +kernel
theorem dX12_mix_165 : decode cX12_mix 165 = .ok (.ifCond .eq 16, 3) := by decide +kernel
theorem dX12_mix_168 : decode cX12_mix 168 = .ok (.iload_n 3, 1) := by decide +kernel
theorem dX12_mix_169 : decode cX12_mix 169 = .ok (.iload 4, 2) := by decide +kernel
theorem dX12_mix_171 : decode cX12_mix 171 = .ok (.iadd, 1) := by decide +kernel
theorem dX12_mix_172 : decode cX12_mix 172 = .ok (.iconst 0, 1) := by decide +kernel
theorem dX12_mix_173 : decode cX12_mix 173 = .ok (.bipush 99, 2) := by decide +kernel
theorem dX12_mix_175 : decode cX12_mix 175 = .ok (.invokestatic 311, 3) := by decide +kernel
theorem dX12_mix_178 : decode cX12_mix 178 = .ok (.goto 20, 3) := by decide +kernel
theorem dX12_mix_181 : decode cX12_mix 181 = .ok (.iload_n 3, 1) := by decide +kernel
theorem dX12_mix_182 : decode cX12_mix 182 = .ok (.iload 4, 2) := by decide +kernel
theorem dX12_mix_184 : decode cX12_mix 184 = .ok (.if_icmp .le 10, 3) := by decide +kernel
theorem dX12_mix_187 : decode cX12_mix 187 = .ok (.iload_n 3, 1) := by decide +kernel
theorem dX12_mix_188 : decode cX12_mix 188 = .ok (.iload 4, 2) := by decide +kernel
theorem dX12_mix_190 : decode cX12_mix 190 = .ok (.isub, 1) := by decide +kernel
theorem dX12_mix_191 : decode cX12_mix 191 = .ok (.goto 7, 3) := by decide +kernel
theorem dX12_mix_194 : decode cX12_mix 194 = .ok (.iload 4, 2) := by decide +kernel
theorem dX12_mix_196 : decode cX12_mix 196 = .ok (.iload_n 3, 1) := by decide +kernel
theorem dX12_mix_197 : decode cX12_mix 197 = .ok (.isub, 1) := by decide +kernel
theorem dX12_mix_198 : decode cX12_mix 198 = .ok (.iastore, 1) := by decide +kernel
theorem dX12_mix_199 : decode cX12_mix 199 = .ok (.aload_n 0, 1) := by decide +kernel
theorem dX12_mix_200 : decode cX12_mix 200 = .ok (.getfield 75, 3) := by decide +kernel
theorem dX12_mix_203 : decode cX12_mix 203 = .ok (.bipush 25, 2) := by decide +kernel
theorem dX12_mix_205 : decode cX12_mix 205 = .ok (.iload_n 2, 1) := by decide +kernel
theorem dX12_mix_206 : decode cX12_mix 206 = .ok (.iadd, 1) := by decide +kernel
theorem dX12_mix_207 : decode cX12_mix 207 = .ok (.iconst 0, 1) := by decide +kernel
theorem dX12_mix_208 : decode cX12_mix 208 = .ok (.iastore, 1) := by decide +kernel
theorem dX12_mix_209 : decode cX12_mix 209 = .ok (.aload_n 0, 1) := by decide +kernel
theorem dX12_mix_210 : decode cX12_mix 210 = .ok (.getfield 75, 3) := by decide +kernel
theorem dX12_mix_213 : decode cX12_mix 213 = .ok (.bipush 55, 2) := by decide +kernel
theorem dX12_mix_215 : decode cX12_mix 215 = .ok (.iload_n 2, 1) := by decide +kernel
theorem dX12_mix_216 : decode cX12_mix 216 = .ok (.iadd, 1) := by decide +kernel
theorem dX12_mix_217 : decode cX12_mix 217 = .ok (.iconst (-1), 1) := by decide +kernel
theorem dX12_mix_218 : decode cX12_mix 218 = .ok (.iastore, 1) := by decide +kernel
theorem dX12_mix_219 : decode cX12_mix 219 = .ok (.aload_n 0, 1) := by decide +kernel
theorem dX12_mix_220 : decode cX12_mix 220 = .ok (.getfield 75, 3) := by decide +kernel
theorem dX12_mix_223 : decode cX12_mix 223 = .ok (.bipush 25, 2) := by decide +kernel
theorem dX12_mix_225 : decode cX12_mix 225 = .ok (.iload_n 1, 1) := by decide +kernel
theorem dX12_mix_226 : decode cX12_mix 226 = .ok (.iadd, 1) := by decide +kernel
theorem dX12_mix_227 : decode cX12_mix 227 = .ok (.iaload, 1) := by decide +kernel
theorem dX12_mix_228 : decode cX12_mix 228 = .ok (.ireturn, 1) := by decide +kernel
theorem dX12_isDays_0 : decode cX12_isDays 0 = .ok (.aload_n 0, 1) := by decide +kernel
theorem dX12_isDays_1 : decode cX12_isDays 1 = .ok (.iload_n 1, 1) := by decide +kernel
theorem dX12_isDays_2 : decode cX12_isDays 2 = .ok (.iload_n 2, 1) := by decide +kernel
theorem dX12_isDays_3 : decode cX12_isDays 3 = .ok (.bipush 60, 2) := by decide +kernel
theorem dX12_isDays_5 : decode cX12_isDays 5 = .ok (.invokestatic 346, 3) := by decide +kernel
theorem dX12_isDays_8 : decode cX12_isDays 8 = .ok (.iload_n 3, 1) := by decide +kernel
theorem dX12_isDays_9 : decode cX12_isDays 9 = .ok (.invokevirtual 274, 3) := by decide +kernel
theorem dX12_isDays_12 : decode cX12_isDays 12 = .ok (.ireturn, 1) := by decide +kernel
theorem dX12_then_0 : decode cX12_then 0 = .ok (.aload_n 0, 1) := by decide +kernel
theorem dX12_then_1 : decode cX12_then 1 = .ok (.iconst 0, 1) := by decide +kernel
theorem dX12_then_2 : decode cX12_then 2 = .ok (.putfield 117, 3) := by decide +kernel
theorem dX12_then_5 : decode cX12_then 5 = .ok (.aload_n 0, 1) := by decide +kernel
theorem dX12_then_6 : decode cX12_then 6 = .ok (.iload_n 1, 1) := by decide +kernel
theorem dX12_then_7 : decode cX12_then 7 = .ok (.invokevirtual 362, 3) := by decide +kernel
theorem dX12_then_10 : decode cX12_then 10 = .ok (.ifCond .eq 22, 3) := by decide +kernel
theorem dX12_then_13 : decode cX12_then 13 = .ok (.aload_n 0, 1) := by decide +kernel
theorem dX12_then_14 : decode cX12_then 14 = .ok (.iload_n 3, 1) := by decide +kernel
theorem dX12_then_15 : decode cX12_then 15 = .ok (.iconst 3, 1) := by decide +kernel
theorem dX12_then_16 : decode cX12_then 16 = .ok (.invokevirtual 365, 3) := by decide +kernel
theorem dX12_then_19 : decode cX12_then 19 = .ok (.ifCond .eq 13, 3) := by decide +kernel
theorem dX12_then_22 : decode cX12_then 22 = .ok (.aload_n 0, 1) := by decide +kernel
theorem dX12_then_23 : decode cX12_then 23 = .ok (.iload_n 2, 1) := by decide +kernel
theorem dX12_then_24 : decode cX12_then 24 = .ok (.iconst 0, 1) := by decide +kernel
theorem dX12_then_25 : decode cX12_then 25 = .ok (.iconst 2, 1) := by decide +kernel
theorem dX12_then_26 : decode cX12_then 26 = .ok (.invokevirtual 386, 3) := by decide +kernel
theorem dX12_then_29 : decode cX12_then 29 = .ok (.ifCond .ne 5, 3) := by decide +kernel
theorem dX12_then_32 : decode cX12_then 32 = .ok (.iconst 0, 1) := by decide +kernel
theorem dX12_then_33 : decode cX12_then 33 = .ok (.ireturn, 1) := by decide +kernel
theorem dX12_then_34 : decode cX12_then 34 = .ok (.aload_n 0, 1) := by decide +kernel
theorem dX12_then_35 : decode cX12_then 35 = .ok (.invokevirtual 389, 3) := by decide +kernel
theorem dX12_then_38 : decode cX12_then 38 = .ok (.aload_n 0, 1) := by decide +kernel
theorem dX12_then_39 : decode cX12_then 39 = .ok (.iload_n 2, 1) := by decide +kernel
theorem dX12_then_40 : decode cX12_then 40 = .ok (.invokevirtual 392, 3) := by decide +kernel
theorem dX12_then_43 : decode cX12_then 43 = .ok (.iload_n 3, 1) := by decide +kernel
theorem dX12_then_44 : decode cX12_then 44 = .ok (.ifCond .ne 15, 3) := by decide +kernel
theorem dX12_then_47 : decode cX12_then 47 = .ok (.aload_n 0, 1) := by decide +kernel
theorem dX12_then_48 : decode cX12_then 48 = .ok (.getfield 75, 3) := by decide +kernel
theorem dX12_then_51 : decode cX12_then 51 = .ok (.bipush 86, 2) := by decide +kernel
theorem dX12_then_53 : decode cX12_then 53 = .ok (.iload_n 1, 1) := by decide +kernel
theorem dX12_then_54 : decode cX12_then 54 = .ok (.iadd, 1) := by decide +kernel
theorem dX12_then_55 : decode cX12_then 55 = .ok (.iaload, 1) := by decide +kernel
theorem dX12_then_56 : decode cX12_then 56 = .ok (.goto 44, 3) := by decide +kernel
theorem dX12_then_59 : decode cX12_then 59 = .ok (.iload_n 3, 1) := by decide +kernel
theorem dX12_then_60 : decode cX12_then 60 = .ok (.iconst 1, 1) := by decide +kernel
theorem dX12_then_61 : decode cX12_then 61 = .ok (.if_icmp .ne 15, 3) := by decide +kernel
theorem dX12_then_64 : decode cX12_then 64 = .ok (.aload_n 0, 1) := by decide +kernel
theorem dX12_then_65 : decode cX12_then 65 = .ok (.getfield 75, 3) := by decide +kernel
theorem dX12_then_68 : decode cX12_then 68 = .ok (.bipush 94, 2) := by decide +kernel
theorem dX12_then_70 : decode cX12_then 70 = .ok (.iload_n 1, 1) := by decide +kernel
theorem dX12_then_71 : decode cX12_then 71 = .ok (.iadd, 1) := by decide +kernel
theorem dX12_then_72 : decode cX12_then 72 = .ok (.iaload, 1) := by decide +kernel
theorem dX12_then_73 : decode cX12_then 73 = .ok (.goto 27, 3) := by decide +kernel
theorem dX12_then_76 : decode cX12_then 76 = .ok (.iload_n 3, 1) := by decide +kernel
theorem dX12_then_77 : decode cX12_then 77 = .ok (.iconst 2, 1) := by decide +kernel
theorem dX12_then_78 : decode cX12_then 78 = .ok (.if_icmp .ne 15, 3) := by decide +kernel
theorem dX12_then_81 : decode cX12_then 81 = .ok (.aload_n 0, 1) := by decide +kernel
theorem dX12_then_82 : decode cX12_then 82 = .ok (.getfield 75, 3) := by decide +kernel
theorem dX12_then_85 : decode cX12_then 85 = .ok (.bipush 102, 2) := by decide +kernel
theorem dX12_then_87 : decode cX12_then 87 = .ok (.iload_n 1, 1) := by decide +kernel
theorem dX12_then_88 : decode cX12_then 88 = .ok (.iadd, 1) := by decide +kernel
theorem dX12_then_89 : decode cX12_then 89 = .ok (.iaload, 1) := by decide +kernel
theorem dX12_then_90 : decode cX12_then 90 = .ok (.goto 10, 3) := by decide +kernel
theorem dX12_then_93 : decode cX12_then 93 = .ok (.aload_n 0, 1) := by decide +kernel
theorem dX12_then_94 : decode cX12_then 94 = .ok (.bipush 85, 2) := by decide +kernel
theorem dX12_then_96 : decode cX12_then 96 = .ok (.iload_n 1, 1) := by decide +kernel
theorem dX12_then_97 : decode cX12_then 97 = .ok (.invokevirtual 336, 3) := by decide +kernel
theorem dX12_then_100 : decode cX12_then 100 = .ok (.ireturn, 1) := by decide +kernel
theorem dX12_even_0 : decode cX12_even 0 = .ok (.aload_n 0, 1) := by decide +kernel
theorem dX12_even_1 : decode cX12_even 1 = .ok (.iconst 0, 1) := by decide +kernel
theorem dX12_even_2 : decode cX12_even 2 = .ok (.putfield 117, 3) := by decide +kernel
theorem dX12_even_5 : decode cX12_even 5 = .ok (.aload_n 0, 1) := by decide +kernel
theorem dX12_even_6 : decode cX12_even 6 = .ok (.iload_n 1, 1) := by decide +kernel
theorem dX12_even_7 : decode cX12_even 7 = .ok (.invokevirtual 362, 3) := by decide +kernel
theorem dX12_even_10 : decode cX12_even 10 = .ok (.ifCond .ne 5, 3) := by decide +kernel
theorem dX12_even_13 : decode cX12_even 13 = .ok (.iconst 0, 1) := by decide +kernel
theorem dX12_even_14 : decode cX12_even 14 = .ok (.ireturn, 1) := by decide +kernel
theorem dX12_even_15 : decode cX12_even 15 = .ok (.aload_n 0, 1) := by decide +kernel
theorem dX12_even_16 : decode cX12_even 16 = .ok (.invokevirtual 389, 3) := by decide +kernel
theorem dX12_even_19 : decode cX12_even 19 = .ok (.iconst 0, 1) := by decide +kernel
theorem dX12_even_20 : decode cX12_even 20 = .ok (.istore_n 2, 1) := by decide +kernel
theorem dX12_even_21 : decode cX12_even 21 = .ok (.iload_n 2, 1) := by decide +kernel
theorem dX12_even_22 : decode cX12_even 22 = .ok (.bipush 60, 2) := by decide +kernel
theorem dX12_even_24 : decode cX12_even 24 = .ok (.if_icmp .gt 38, 3) := by decide +kernel
theorem dX12_even_27 : decode cX12_even 27 = .ok (.aload_n 0, 1) := by decide +kernel
theorem dX12_even_28 : decode cX12_even 28 = .ok (.getfield 75, 3) := by decide +kernel
theorem dX12_even_31 : decode cX12_even 31 = .ok (.bipush 86, 2) := by decide +kernel
theorem dX12_even_33 : decode cX12_even 33 = .ok (.iload_n 1, 1) := by decide +kernel
theorem dX12_even_34 : decode cX12_even 34 = .ok (.iadd, 1) := by decide +kernel
theorem dX12_even_35 : decode cX12_even 35 = .ok (.iaload, 1) := by decide +kernel
theorem dX12_even_36 : decode cX12_even 36 = .ok (.aload_n 0, 1) := by decide +kernel
theorem dX12_even_37 : decode cX12_even 37 = .ok (.getfield 75, 3) := by decide +kernel
theorem dX12_even_40 : decode cX12_even 40 = .ok (.bipush 94, 2) := by decide +kernel
theorem dX12_even_42 : decode cX12_even 42 = .ok (.iload_n 1, 1) := by decide +kernel
theorem dX12_even_43 : decode cX12_even 43 = .ok (.iadd, 1) := by decide +kernel
theorem dX12_even_44 : decode cX12_even 44 = .ok (.iaload, 1) := by decide +kernel
theorem dX12_even_45 : decode cX12_even 45 = .ok (.if_icmp .ne 5, 3) := by decide +kernel
theorem dX12_even_48 : decode cX12_even 48 = .ok (.iload_n 2, 1) := by decide +kernel
theorem dX12_even_49 : decode cX12_even 49 = .ok (.ireturn, 1) := by decide +kernel
theorem dX12_even_50 : decode cX12_even 50 = .ok (.aload_n 0, 1) := by decide +kernel
theorem dX12_even_51 : decode cX12_even 51 = .ok (.bipush 85, 2) := by decide +kernel
theorem dX12_even_53 : decode cX12_even 53 = .ok (.invokevirtual 343, 3) := by decide +kernel
theorem dX12_even_56 : decode cX12_even 56 = .ok (.iinc 2 1, 3) := by decide +kernel
theorem dX12_even_59 : decode cX12_even 59 = .ok (.goto (-38), 3) := by decide +kernel
theorem dX12_even_62 : decode cX12_even 62 = .ok (.iconst (-1), 1) := by decide +kernel
theorem dX12_even_63 : decode cX12_even 63 = .ok (.ireturn, 1) := by decide +kernel
theorem dX12_out_0 : decode cX12_out 0 = .ok (.aload_n 0, 1) := by decide +kernel
theorem dX12_out_1 : decode cX12_out 1 = .ok (.iconst 0, 1) := by decide +kernel
theorem dX12_out_2 : decode cX12_out 2 = .ok (.putfield 117, 3) := by decide +kernel
theorem dX12_out_5 : decode cX12_out 5 = .ok (.aload_n 0, 1) := by decide +kernel
theorem dX12_out_6 : decode cX12_out 6 = .ok (.iload_n 1, 1) := by decide +kernel
theorem dX12_out_7 : decode cX12_out 7 = .ok (.invokevirtual 362, 3) := by decide +kernel
theorem dX12_out_10 : decode cX12_out 10 = .ok (.ifCond .ne 5, 3) := by decide +kernel
theorem dX12_out_13 : decode cX12_out 13 = .ok (.iconst 0, 1) := by decide +kernel
theorem dX12_out_14 : decode cX12_out 14 = .ok (.ireturn, 1) := by decide +kernel
theorem dX12_out_15 : decode cX12_out 15 = .ok (.aload_n 0, 1) := by decide +kernel
theorem dX12_out_16 : decode cX12_out 16 = .ok (.invokevirtual 389, 3) := by decide +kernel
theorem dX12_out_19 : decode cX12_out 19 = .ok (.iconst 1, 1) := by decide +kernel
theorem dX12_out_20 : decode cX12_out 20 = .ok (.istore_n 2, 1) := by decide +kernel
theorem dX12_out_21 : decode cX12_out 21 = .ok (.iload_n 2, 1) := by decide +kernel
theorem dX12_out_22 : decode cX12_out 22 = .ok (.bipush 60, 2) := by decide +kernel
theorem dX12_out_24 : decode cX12_out 24 = .ok (.if_icmp .gt 28, 3) := by decide +kernel
theorem dX12_out_27 : decode cX12_out 27 = .ok (.aload_n 0, 1) := by decide +kernel
theorem dX12_out_28 : decode cX12_out 28 = .ok (.bipush 85, 2) := by decide +kernel
theorem dX12_out_30 : decode cX12_out 30 = .ok (.invokevirtual 343, 3) := by decide +kernel
theorem dX12_out_33 : decode cX12_out 33 = .ok (.aload_n 0, 1) := by decide +kernel
theorem dX12_out_34 : decode cX12_out 34 = .ok (.getfield 329, 3) := by decide +kernel
theorem dX12_out_37 : decode cX12_out 37 = .ok (.iload_n 1, 1) := by decide +kernel
theorem dX12_out_38 : decode cX12_out 38 = .ok (.ishr, 1) := by decide +kernel
theorem dX12_out_39 : decode cX12_out 39 = .ok (.iconst 1, 1) := by decide +kernel
theorem dX12_out_40 : decode cX12_out 40 = .ok (.iand, 1) := by decide +kernel
theorem dX12_out_41 : decode cX12_out 41 = .ok (.ifCond .ne 5, 3) := by decide +kernel
theorem dX12_out_44 : decode cX12_out 44 = .ok (.iload_n 2, 1) := by decide +kernel
theorem dX12_out_45 : decode cX12_out 45 = .ok (.ireturn, 1) := by decide +kernel
theorem dX12_out_46 : decode cX12_out 46 = .ok (.iinc 2 1, 3) := by decide +kernel
theorem dX12_out_49 : decode cX12_out 49 = .ok (.goto (-28), 3) := by decide +kernel
theorem dX12_out_52 : decode cX12_out 52 = .ok (.iconst (-1), 1) := by decide +kernel
theorem dX12_out_53 : decode cX12_out 53 = .ok (.ireturn, 1) := by decide +kernel
theorem dX12_luckiest_0 : decode cX12_luckiest 0 = .ok (.aload_n 0, 1) := by decide +kernel
theorem dX12_luckiest_1 : decode cX12_luckiest 1 = .ok (.iconst 0, 1) := by decide +kernel
theorem dX12_luckiest_2 : decode cX12_luckiest 2 = .ok (.putfield 117, 3) := by decide +kernel
theorem dX12_luckiest_5 : decode cX12_luckiest 5 = .ok (.aload_n 0, 1) := by decide +kernel
theorem dX12_luckiest_6 : decode cX12_luckiest 6 = .ok (.iload_n 1, 1) := by decide +kernel
theorem dX12_luckiest_7 : decode cX12_luckiest 7 = .ok (.iconst 0, 1) := by decide +kernel
theorem dX12_luckiest_8 : decode cX12_luckiest 8 = .ok (.iconst 1, 1) := by decide +kernel
theorem dX12_luckiest_9 : decode cX12_luckiest 9 = .ok (.invokevirtual 386, 3) := by decide +kernel
theorem dX12_luckiest_12 : decode cX12_luckiest 12 = .ok (.ifCond .ne 5, 3) := by decide +kernel
theorem dX12_luckiest_15 : decode cX12_luckiest 15 = .ok (.iconst 0, 1) := by decide +kernel
theorem dX12_luckiest_16 : decode cX12_luckiest 16 = .ok (.ireturn, 1) := by decide +kernel
theorem dX12_luckiest_17 : decode cX12_luckiest 17 = .ok (.aload_n 0, 1) := by decide +kernel
theorem dX12_luckiest_18 : decode cX12_luckiest 18 = .ok (.invokevirtual 389, 3) := by decide +kernel
theorem dX12_luckiest_21 : decode cX12_luckiest 21 = .ok (.aload_n 0, 1) := by decide +kernel
theorem dX12_luckiest_22 : decode cX12_luckiest 22 = .ok (.iload_n 1, 1) := by decide +kernel
theorem dX12_luckiest_23 : decode cX12_luckiest 23 = .ok (.invokevirtual 392, 3) := by decide +kernel
theorem dX12_luckiest_26 : decode cX12_luckiest 26 = .ok (.iconst (-1), 1) := by decide +kernel
theorem dX12_luckiest_27 : decode cX12_luckiest 27 = .ok (.istore_n 2, 1) := by decide +kernel
theorem dX12_luckiest_28 : decode cX12_luckiest 28 = .ok (.iconst 0, 1) := by decide +kernel
theorem dX12_luckiest_29 : decode cX12_luckiest 29 = .ok (.istore_n 3, 1) := by decide +kernel
theorem dX12_luckiest_30 : decode cX12_luckiest 30 = .ok (.iload_n 3, 1) := by decide +kernel
theorem dX12_luckiest_31 : decode cX12_luckiest 31 = .ok (.aload_n 0, 1) := by decide +kernel
theorem dX12_luckiest_32 : decode cX12_luckiest 32 = .ok (.getfield 281, 3) := by decide +kernel
theorem dX12_luckiest_35 : decode cX12_luckiest 35 = .ok (.if_icmp .ge 37, 3) := by decide +kernel
theorem dX12_luckiest_38 : decode cX12_luckiest 38 = .ok (.iload_n 2, 1) := by decide +kernel
theorem dX12_luckiest_39 : decode cX12_luckiest 39 = .ok (.iconst (-1), 1) := by decide +kernel
theorem dX12_luckiest_40 : decode cX12_luckiest 40 = .ok (.if_icmp .eq 24, 3) := by decide +kernel
theorem dX12_luckiest_43 : decode cX12_luckiest 43 = .ok (.aload_n 0, 1) := by decide +kernel
theorem dX12_luckiest_44 : decode cX12_luckiest 44 = .ok (.getfield 75, 3) := by decide +kernel
theorem dX12_luckiest_47 : decode cX12_luckiest 47 = .ok (.bipush 102, 2) := by decide +kernel
theorem dX12_luckiest_49 : decode cX12_luckiest 49 = .ok (.iload_n 3, 1) := by decide +kernel
theorem dX12_luckiest_50 : decode cX12_luckiest 50 = .ok (.iadd, 1) := by decide +kernel
theorem dX12_luckiest_51 : decode cX12_luckiest 51 = .ok (.iaload, 1) := by decide +kernel
theorem dX12_luckiest_52 : decode cX12_luckiest 52 = .ok (.aload_n 0, 1) := by decide +kernel
theorem dX12_luckiest_53 : decode cX12_luckiest 53 = .ok (.getfield 75, 3) := by decide +kernel
theorem dX12_luckiest_56 : decode cX12_luckiest 56 = .ok (.bipush 102, 2) := by decide +kernel
theorem dX12_luckiest_58 : decode cX12_luckiest 58 = .ok (.iload_n 2, 1) := by decide +kernel
theorem dX12_luckiest_59 : decode cX12_luckiest 59 = .ok (.iadd, 1) := by decide +kernel
theorem dX12_luckiest_60 : decode cX12_luckiest 60 = .ok (.iaload, 1) := by decide +kernel
theorem dX12_luckiest_61 : decode cX12_luckiest 61 = .ok (.if_icmp .le 5, 3) := by decide +kernel
theorem dX12_luckiest_64 : decode cX12_luckiest 64 = .ok (.iload_n 3, 1) := by decide +kernel
theorem dX12_luckiest_65 : decode cX12_luckiest 65 = .ok (.istore_n 2, 1) := by decide +kernel
theorem dX12_luckiest_66 : decode cX12_luckiest 66 = .ok (.iinc 3 1, 3) := by decide +kernel
theorem dX12_luckiest_69 : decode cX12_luckiest 69 = .ok (.goto (-39), 3) := by decide +kernel
theorem dX12_luckiest_72 : decode cX12_luckiest 72 = .ok (.iload_n 2, 1) := by decide +kernel
theorem dX12_luckiest_73 : decode cX12_luckiest 73 = .ok (.ireturn, 1) := by decide +kernel
theorem dX12_streak_0 : decode cX12_streak 0 = .ok (.aload_n 0, 1) := by decide +kernel
theorem dX12_streak_1 : decode cX12_streak 1 = .ok (.iconst 0, 1) := by decide +kernel
theorem dX12_streak_2 : decode cX12_streak 2 = .ok (.putfield 117, 3) := by decide +kernel
theorem dX12_streak_5 : decode cX12_streak 5 = .ok (.aload_n 0, 1) := by decide +kernel
theorem dX12_streak_6 : decode cX12_streak 6 = .ok (.iload_n 1, 1) := by decide +kernel
theorem dX12_streak_7 : decode cX12_streak 7 = .ok (.invokevirtual 362, 3) := by decide +kernel
theorem dX12_streak_10 : decode cX12_streak 10 = .ok (.ifCond .eq 13, 3) := by decide +kernel
theorem dX12_streak_13 : decode cX12_streak 13 = .ok (.aload_n 0, 1) := by decide +kernel
theorem dX12_streak_14 : decode cX12_streak 14 = .ok (.iload_n 2, 1) := by decide +kernel
theorem dX12_streak_15 : decode cX12_streak 15 = .ok (.iconst 0, 1) := by decide +kernel
theorem dX12_streak_16 : decode cX12_streak 16 = .ok (.iconst 2, 1) := by decide +kernel
theorem dX12_streak_17 : decode cX12_streak 17 = .ok (.invokevirtual 386, 3) := by decide +kernel
theorem dX12_streak_20 : decode cX12_streak 20 = .ok (.ifCond .ne 5, 3) := by decide +kernel
theorem dX12_streak_23 : decode cX12_streak 23 = .ok (.iconst 0, 1) := by decide +kernel
theorem dX12_streak_24 : decode cX12_streak 24 = .ok (.ireturn, 1) := by decide +kernel
theorem dX12_streak_25 : decode cX12_streak 25 = .ok (.aload_n 0, 1) := by decide +kernel
theorem dX12_streak_26 : decode cX12_streak 26 = .ok (.invokevirtual 389, 3) := by decide +kernel
theorem dX12_streak_29 : decode cX12_streak 29 = .ok (.iconst 0, 1) := by decide +kernel
theorem dX12_streak_30 : decode cX12_streak 30 = .ok (.istore_n 3, 1) := by decide +kernel
theorem dX12_streak_31 : decode cX12_streak 31 = .ok (.iconst 0, 1) := by decide +kernel
theorem dX12_streak_32 : decode cX12_streak 32 = .ok (.istore 4, 2) := by decide +kernel
theorem dX12_streak_34 : decode cX12_streak 34 = .ok (.iconst 0, 1) := by decide +kernel
theorem dX12_streak_35 : decode cX12_streak 35 = .ok (.istore 5, 2) := by decide +kernel
theorem dX12_streak_37 : decode cX12_streak 37 = .ok (.iload 5, 2) := by decide +kernel
theorem dX12_streak_39 : decode cX12_streak 39 = .ok (.iload_n 2, 1) := by decide +kernel
theorem dX12_streak_40 : decode cX12_streak 40 = .ok (.if_icmp .ge 50, 3) := by decide +kernel
theorem dX12_streak_43 : decode cX12_streak 43 = .ok (.aload_n 0, 1) := by decide +kernel
theorem dX12_streak_44 : decode cX12_streak 44 = .ok (.bipush 85, 2) := by decide +kernel
theorem dX12_streak_46 : decode cX12_streak 46 = .ok (.invokevirtual 343, 3) := by decide +kernel
theorem dX12_streak_49 : decode cX12_streak 49 = .ok (.aload_n 0, 1) := by decide +kernel
theorem dX12_streak_50 : decode cX12_streak 50 = .ok (.getfield 329, 3) := by decide +kernel
theorem dX12_streak_53 : decode cX12_streak 53 = .ok (.iload_n 1, 1) := by decide +kernel
theorem dX12_streak_54 : decode cX12_streak 54 = .ok (.ishr, 1) := by decide +kernel
theorem dX12_streak_55 : decode cX12_streak 55 = .ok (.iconst 1, 1) := by decide +kernel
theorem dX12_streak_56 : decode cX12_streak 56 = .ok (.iand, 1) := by decide +kernel
theorem dX12_streak_57 : decode cX12_streak 57 = .ok (.iconst 1, 1) := by decide +kernel
theorem dX12_streak_58 : decode cX12_streak 58 = .ok (.if_icmp .ne 10, 3) := by decide +kernel
theorem dX12_streak_61 : decode cX12_streak 61 = .ok (.iload 4, 2) := by decide +kernel
theorem dX12_streak_63 : decode cX12_streak 63 = .ok (.iconst 1, 1) := by decide +kernel
theorem dX12_streak_64 : decode cX12_streak 64 = .ok (.iadd, 1) := by decide +kernel
theorem dX12_streak_65 : decode cX12_streak 65 = .ok (.goto 4, 3) := by decide +kernel
theorem dX12_streak_68 : decode cX12_streak 68 = .ok (.iconst 0, 1) := by decide +kernel
theorem dX12_streak_69 : decode cX12_streak 69 = .ok (.istore 4, 2) := by decide +kernel
theorem dX12_streak_71 : decode cX12_streak 71 = .ok (.iload 4, 2) := by decide +kernel
theorem dX12_streak_73 : decode cX12_streak 73 = .ok (.iload_n 3, 1) := by decide +kernel
theorem dX12_streak_74 : decode cX12_streak 74 = .ok (.if_icmp .le 8, 3) := by decide +kernel
theorem dX12_streak_77 : decode cX12_streak 77 = .ok (.iload 4, 2) := by decide +kernel
theorem dX12_streak_79 : decode cX12_streak 79 = .ok (.goto 4, 3) := by decide +kernel
theorem dX12_streak_82 : decode cX12_streak 82 = .ok (.iload_n 3, 1) := by decide +kernel
theorem dX12_streak_83 : decode cX12_streak 83 = .ok (.istore_n 3, 1) := by decide +kernel
theorem dX12_streak_84 : decode cX12_streak 84 = .ok (.iinc 5 1, 3) := by decide +kernel
theorem dX12_streak_87 : decode cX12_streak 87 = .ok (.goto (-50), 3) := by decide +kernel
theorem dX12_streak_90 : decode cX12_streak 90 = .ok (.iload_n 3, 1) := by decide +kernel
theorem dX12_streak_91 : decode cX12_streak 91 = .ok (.ireturn, 1) := by decide +kernel
theorem dX12_day_0 : decode cX12_day 0 = .ok (.aload_n 0, 1) := by decide +kernel
theorem dX12_day_1 : decode cX12_day 1 = .ok (.iconst 0, 1) := by decide +kernel
theorem dX12_day_2 : decode cX12_day 2 = .ok (.putfield 117, 3) := by decide +kernel
theorem dX12_day_5 : decode cX12_day 5 = .ok (.aload_n 0, 1) := by decide +kernel
theorem dX12_day_6 : decode cX12_day 6 = .ok (.iload_n 2, 1) := by decide +kernel
theorem dX12_day_7 : decode cX12_day 7 = .ok (.iconst 1, 1) := by decide +kernel
theorem dX12_day_8 : decode cX12_day 8 = .ok (.invokevirtual 365, 3) := by decide +kernel
theorem dX12_day_11 : decode cX12_day 11 = .ok (.ifCond .eq 13, 3) := by decide +kernel
theorem dX12_day_14 : decode cX12_day 14 = .ok (.aload_n 0, 1) := by decide +kernel
theorem dX12_day_15 : decode cX12_day 15 = .ok (.iload_n 1, 1) := by decide +kernel
theorem dX12_day_16 : decode cX12_day 16 = .ok (.iconst 1, 1) := by decide +kernel
theorem dX12_day_17 : decode cX12_day 17 = .ok (.iconst 2, 1) := by decide +kernel
theorem dX12_day_18 : decode cX12_day 18 = .ok (.invokevirtual 386, 3) := by decide +kernel
theorem dX12_day_21 : decode cX12_day 21 = .ok (.ifCond .ne 5, 3) := by decide +kernel
theorem dX12_day_24 : decode cX12_day 24 = .ok (.iconst 0, 1) := by decide +kernel
theorem dX12_day_25 : decode cX12_day 25 = .ok (.ireturn, 1) := by decide +kernel
theorem dX12_day_26 : decode cX12_day 26 = .ok (.aload_n 0, 1) := by decide +kernel
theorem dX12_day_27 : decode cX12_day 27 = .ok (.invokevirtual 389, 3) := by decide +kernel
theorem dX12_day_30 : decode cX12_day 30 = .ok (.iconst (-1), 1) := by decide +kernel
theorem dX12_day_31 : decode cX12_day 31 = .ok (.istore_n 3, 1) := by decide +kernel
theorem dX12_day_32 : decode cX12_day 32 = .ok (.iconst 0, 1) := by decide +kernel
theorem dX12_day_33 : decode cX12_day 33 = .ok (.istore 4, 2) := by decide +kernel
theorem dX12_day_35 : decode cX12_day 35 = .ok (.iconst 1, 1) := by decide +kernel
theorem dX12_day_36 : decode cX12_day 36 = .ok (.istore 5, 2) := by decide +kernel
theorem dX12_day_38 : decode cX12_day 38 = .ok (.iload 5, 2) := by decide +kernel
theorem dX12_day_40 : decode cX12_day 40 = .ok (.iload_n 1, 1) := by decide +kernel
theorem dX12_day_41 : decode cX12_day 41 = .ok (.if_icmp .gt 56, 3) := by decide +kernel
theorem dX12_day_44 : decode cX12_day 44 = .ok (.aload_n 0, 1) := by decide +kernel
theorem dX12_day_45 : decode cX12_day 45 = .ok (.bipush 102, 2) := by decide +kernel
theorem dX12_day_47 : decode cX12_day 47 = .ok (.invokevirtual 350, 3) := by decide +kernel
theorem dX12_day_50 : decode cX12_day 50 = .ok (.istore 6, 2) := by decide +kernel
theorem dX12_day_52 : decode cX12_day 52 = .ok (.aload_n 0, 1) := by decide +kernel
theorem dX12_day_53 : decode cX12_day 53 = .ok (.bipush 85, 2) := by decide +kernel
theorem dX12_day_55 : decode cX12_day 55 = .ok (.invokevirtual 343, 3) := by decide +kernel
theorem dX12_day_58 : decode cX12_day 58 = .ok (.aload_n 0, 1) := by decide +kernel
theorem dX12_day_59 : decode cX12_day 59 = .ok (.bipush 102, 2) := by decide +kernel
theorem dX12_day_61 : decode cX12_day 61 = .ok (.invokevirtual 350, 3) := by decide +kernel
theorem dX12_day_64 : decode cX12_day 64 = .ok (.iload 6, 2) := by decide +kernel
theorem dX12_day_66 : decode cX12_day 66 = .ok (.isub, 1) := by decide +kernel
theorem dX12_day_67 : decode cX12_day 67 = .ok (.istore 7, 2) := by decide +kernel
theorem dX12_day_69 : decode cX12_day 69 = .ok (.iload_n 3, 1) := by decide +kernel
theorem dX12_day_70 : decode cX12_day 70 = .ok (.iconst (-1), 1) := by decide +kernel
theorem dX12_day_71 : decode cX12_day 71 = .ok (.if_icmp .eq 13, 3) := by decide +kernel
theorem dX12_day_74 : decode cX12_day 74 = .ok (.iload 7, 2) := by decide +kernel
theorem dX12_day_76 : decode cX12_day 76 = .ok (.iload 4, 2) := by decide +kernel
theorem dX12_day_78 : decode cX12_day 78 = .ok (.if_icmp .gt 6, 3) := by decide +kernel
theorem dX12_day_81 : decode cX12_day 81 = .ok (.goto 10, 3) := by decide +kernel
theorem dX12_day_84 : decode cX12_day 84 = .ok (.iload 5, 2) := by decide +kernel
theorem dX12_day_86 : decode cX12_day 86 = .ok (.istore_n 3, 1) := by decide +kernel
theorem dX12_day_87 : decode cX12_day 87 = .ok (.iload 7, 2) := by decide +kernel
theorem dX12_day_89 : decode cX12_day 89 = .ok (.istore 4, 2) := by decide +kernel
theorem dX12_day_91 : decode cX12_day 91 = .ok (.iinc 5 1, 3) := by decide +kernel
theorem dX12_day_94 : decode cX12_day 94 = .ok (.goto (-56), 3) := by decide +kernel
theorem dX12_day_97 : decode cX12_day 97 = .ok (.iload_n 2, 1) := by decide +kernel
theorem dX12_day_98 : decode cX12_day 98 = .ok (.ifCond .ne 7, 3) := by decide +kernel
theorem dX12_day_101 : decode cX12_day 101 = .ok (.iload_n 3, 1) := by decide +kernel
theorem dX12_day_102 : decode cX12_day 102 = .ok (.goto 5, 3) := by decide +kernel
theorem dX12_day_105 : decode cX12_day 105 = .ok (.iload 4, 2) := by decide +kernel
theorem dX12_day_107 : decode cX12_day 107 = .ok (.ireturn, 1) := by decide +kernel
theorem dX12_measures_0 : decode cX12_measures 0 = .ok (.iconst 0, 1) := by decide +kernel
theorem dX12_measures_1 : decode cX12_measures 1 = .ok (.istore_n 2, 1) := by decide +kernel
theorem dX12_measures_2 : decode cX12_measures 2 = .ok (.iload_n 2, 1) := by decide +kernel
theorem dX12_measures_3 : decode cX12_measures 3 = .ok (.bipush 64, 2) := by decide +kernel
theorem dX12_measures_5 : decode cX12_measures 5 = .ok (.if_icmp .ge 45, 3) := by decide +kernel
theorem dX12_measures_8 : decode cX12_measures 8 = .ok (.aload_n 0, 1) := by decide +kernel
theorem dX12_measures_9 : decode cX12_measures 9 = .ok (.getfield 87, 3) := by decide +kernel
theorem dX12_measures_12 : decode cX12_measures 12 = .ok (.iload_n 2, 1) := by decide +kernel
theorem dX12_measures_13 : decode cX12_measures 13 = .ok (.iload_n 2, 1) := by decide +kernel
theorem dX12_measures_14 : decode cX12_measures 14 = .ok (.bipush 8, 2) := by decide +kernel
theorem dX12_measures_16 : decode cX12_measures 16 = .ok (.idiv, 1) := by decide +kernel
theorem dX12_measures_17 : decode cX12_measures 17 = .ok (.iload_n 2, 1) := by decide +kernel
theorem dX12_measures_18 : decode cX12_measures 18 = .ok (.bipush 8, 2) := by decide +kernel
theorem dX12_measures_20 : decode cX12_measures 20 = .ok (.irem, 1) := by decide +kernel
theorem dX12_measures_21 : decode cX12_measures 21 = .ok (.if_icmp .ne 7, 3) := by decide +kernel
theorem dX12_measures_24 : decode cX12_measures 24 = .ok (.iconst 0, 1) := by decide +kernel
theorem dX12_measures_25 : decode cX12_measures 25 = .ok (.goto 6, 3) := by decide +kernel
theorem dX12_measures_28 : decode cX12_measures 28 = .ok (.ldc_w 395, 3) := by decide +kernel
theorem dX12_measures_31 : decode cX12_measures 31 = .ok (.iastore, 1) := by decide +kernel
theorem dX12_measures_32 : decode cX12_measures 32 = .ok (.aload_n 0, 1) := by decide +kernel
theorem dX12_measures_33 : decode cX12_measures 33 = .ok (.getfield 90, 3) := by decide +kernel
theorem dX12_measures_36 : decode cX12_measures 36 = .ok (.iload_n 2, 1) := by decide +kernel
theorem dX12_measures_37 : decode cX12_measures 37 = .ok (.aload_n 0, 1) := by decide +kernel
theorem dX12_measures_38 : decode cX12_measures 38 = .ok (.getfield 87, 3) := by decide +kernel
theorem dX12_measures_41 : decode cX12_measures 41 = .ok (.iload_n 2, 1) := by decide +kernel
theorem dX12_measures_42 : decode cX12_measures 42 = .ok (.iaload, 1) := by decide +kernel
theorem dX12_measures_43 : decode cX12_measures 43 = .ok (.iastore, 1) := by decide +kernel
theorem dX12_measures_44 : decode cX12_measures 44 = .ok (.iinc 2 1, 3) := by decide +kernel
theorem dX12_measures_47 : decode cX12_measures 47 = .ok (.goto (-45), 3) := by decide +kernel
theorem dX12_measures_50 : decode cX12_measures 50 = .ok (.iconst 0, 1) := by decide +kernel
theorem dX12_measures_51 : decode cX12_measures 51 = .ok (.istore_n 2, 1) := by decide +kernel
theorem dX12_measures_52 : decode cX12_measures 52 = .ok (.iload_n 2, 1) := by decide +kernel
theorem dX12_measures_53 : decode cX12_measures 53 = .ok (.aload_n 0, 1) := by decide +kernel
theorem dX12_measures_54 : decode cX12_measures 54 = .ok (.getfield 284, 3) := by decide +kernel
theorem dX12_measures_57 : decode cX12_measures 57 = .ok (.if_icmp .ge 109, 3) := by decide +kernel
theorem dX12_measures_60 : decode cX12_measures 60 = .ok (.iload_n 2, 1) := by decide +kernel
theorem dX12_measures_61 : decode cX12_measures 61 = .ok (.iload_n 1, 1) := by decide +kernel
theorem dX12_measures_62 : decode cX12_measures 62 = .ok (.if_icmp .ne 6, 3) := by decide +kernel
theorem dX12_measures_65 : decode cX12_measures 65 = .ok (.goto 95, 3) := by decide +kernel
theorem dX12_measures_68 : decode cX12_measures 68 = .ok (.bipush 8, 2) := by decide +kernel
theorem dX12_measures_70 : decode cX12_measures 70 = .ok (.aload_n 0, 1) := by decide +kernel
theorem dX12_measures_71 : decode cX12_measures 71 = .ok (.getfield 20, 3) := by decide +kernel
theorem dX12_measures_74 : decode cX12_measures 74 = .ok (.iload_n 2, 1) := by decide +kernel
theorem dX12_measures_75 : decode cX12_measures 75 = .ok (.iaload, 1) := by decide +kernel
theorem dX12_measures_76 : decode cX12_measures 76 = .ok (.imul, 1) := by decide +kernel
theorem dX12_measures_77 : decode cX12_measures 77 = .ok (.aload_n 0, 1) := by decide +kernel
theorem dX12_measures_78 : decode cX12_measures 78 = .ok (.getfield 23, 3) := by decide +kernel
theorem dX12_measures_81 : decode cX12_measures 81 = .ok (.iload_n 2, 1) := by decide +kernel
theorem dX12_measures_82 : decode cX12_measures 82 = .ok (.iaload, 1) := by decide +kernel
theorem dX12_measures_83 : decode cX12_measures 83 = .ok (.iadd, 1) := by decide +kernel
theorem dX12_measures_84 : decode cX12_measures 84 = .ok (.istore_n 3, 1) := by decide +kernel
theorem dX12_measures_85 : decode cX12_measures 85 = .ok (.bipush 8, 2) := by decide +kernel
theorem dX12_measures_87 : decode cX12_measures 87 = .ok (.aload_n 0, 1) := by decide +kernel
theorem dX12_measures_88 : decode cX12_measures 88 = .ok (.getfield 23, 3) := by decide +kernel
theorem dX12_measures_91 : decode cX12_measures 91 = .ok (.iload_n 2, 1) := by decide +kernel
theorem dX12_measures_92 : decode cX12_measures 92 = .ok (.iaload, 1) := by decide +kernel
theorem dX12_measures_93 : decode cX12_measures 93 = .ok (.imul, 1) := by decide +kernel
theorem dX12_measures_94 : decode cX12_measures 94 = .ok (.aload_n 0, 1) := by decide +kernel
theorem dX12_measures_95 : decode cX12_measures 95 = .ok (.getfield 20, 3) := by decide +kernel
theorem dX12_measures_98 : decode cX12_measures 98 = .ok (.iload_n 2, 1) := by decide +kernel
theorem dX12_measures_99 : decode cX12_measures 99 = .ok (.iaload, 1) := by decide +kernel
theorem dX12_measures_100 : decode cX12_measures 100 = .ok (.iadd, 1) := by decide +kernel
theorem dX12_measures_101 : decode cX12_measures 101 = .ok (.istore 4, 2) := by decide +kernel
theorem dX12_measures_103 : decode cX12_measures 103 = .ok (.aload_n 0, 1) := by decide +kernel
theorem dX12_measures_104 : decode cX12_measures 104 = .ok (.getfield 87, 3) := by decide +kernel
theorem dX12_measures_107 : decode cX12_measures 107 = .ok (.iload_n 3, 1) := by decide +kernel
theorem dX12_measures_108 : decode cX12_measures 108 = .ok (.aload_n 0, 1) := by decide +kernel
theorem dX12_measures_109 : decode cX12_measures 109 = .ok (.getfield 26, 3) := by decide +kernel
theorem dX12_measures_112 : decode cX12_measures 112 = .ok (.iload_n 2, 1) := by decide +kernel
theorem dX12_measures_113 : decode cX12_measures 113 = .ok (.iaload, 1) := by decide +kernel
theorem dX12_measures_114 : decode cX12_measures 114 = .ok (.iastore, 1) := by decide +kernel
theorem dX12_measures_115 : decode cX12_measures 115 = .ok (.aload_n 0, 1) := by decide +kernel
theorem dX12_measures_116 : decode cX12_measures 116 = .ok (.getfield 87, 3) := by decide +kernel
theorem dX12_measures_119 : decode cX12_measures 119 = .ok (.iload 4, 2) := by decide +kernel
theorem dX12_measures_121 : decode cX12_measures 121 = .ok (.aload_n 0, 1) := by decide +kernel
theorem dX12_measures_122 : decode cX12_measures 122 = .ok (.getfield 26, 3) := by decide +kernel
theorem dX12_measures_125 : decode cX12_measures 125 = .ok (.iload_n 2, 1) := by decide +kernel
theorem dX12_measures_126 : decode cX12_measures 126 = .ok (.iaload, 1) := by decide +kernel
theorem dX12_measures_127 : decode cX12_measures 127 = .ok (.iastore, 1) := by decide +kernel
theorem dX12_measures_128 : decode cX12_measures 128 = .ok (.aload_n 0, 1) := by decide +kernel
theorem dX12_measures_129 : decode cX12_measures 129 = .ok (.getfield 90, 3) := by decide +kernel
theorem dX12_measures_132 : decode cX12_measures 132 = .ok (.iload_n 3, 1) := by decide +kernel
theorem dX12_measures_133 : decode cX12_measures 133 = .ok (.aload_n 0, 1) := by decide +kernel
theorem dX12_measures_134 : decode cX12_measures 134 = .ok (.getfield 26, 3) := by decide +kernel
theorem dX12_measures_137 : decode cX12_measures 137 = .ok (.iload_n 2, 1) := by decide +kernel
theorem dX12_measures_138 : decode cX12_measures 138 = .ok (.iaload, 1) := by decide +kernel
theorem dX12_measures_139 : decode cX12_measures 139 = .ok (.aload_n 0, 1) := by decide +kernel
theorem dX12_measures_140 : decode cX12_measures 140 = .ok (.getfield 29, 3) := by decide +kernel
theorem dX12_measures_143 : decode cX12_measures 143 = .ok (.iload_n 2, 1) := by decide +kernel
theorem dX12_measures_144 : decode cX12_measures 144 = .ok (.iaload, 1) := by decide +kernel
theorem dX12_measures_145 : decode cX12_measures 145 = .ok (.imul, 1) := by decide +kernel
theorem dX12_measures_146 : decode cX12_measures 146 = .ok (.iastore, 1) := by decide +kernel
theorem dX12_measures_147 : decode cX12_measures 147 = .ok (.aload_n 0, 1) := by decide +kernel
theorem dX12_measures_148 : decode cX12_measures 148 = .ok (.getfield 90, 3) := by decide +kernel
theorem dX12_measures_151 : decode cX12_measures 151 = .ok (.iload 4, 2) := by decide +kernel
theorem dX12_measures_153 : decode cX12_measures 153 = .ok (.aload_n 0, 1) := by decide +kernel
theorem dX12_measures_154 : decode cX12_measures 154 = .ok (.getfield 90, 3) := by decide +kernel
theorem dX12_measures_157 : decode cX12_measures 157 = .ok (.iload_n 3, 1) := by decide +kernel
theorem dX12_measures_158 : decode cX12_measures 158 = .ok (.iaload, 1) := by decide +kernel
theorem dX12_measures_159 : decode cX12_measures 159 = .ok (.iastore, 1) := by decide +kernel
theorem dX12_measures_160 : decode cX12_measures 160 = .ok (.iinc 2 1, 3) := by decide +kernel
theorem dX12_measures_163 : decode cX12_measures 163 = .ok (.goto (-111), 3) := by decide +kernel
theorem dX12_measures_166 : decode cX12_measures 166 = .ok (.iconst 0, 1) := by decide +kernel
theorem dX12_measures_167 : decode cX12_measures 167 = .ok (.istore_n 2, 1) := by decide +kernel
theorem dX12_measures_168 : decode cX12_measures 168 = .ok (.iload_n 2, 1) := by decide +kernel
theorem dX12_measures_169 : decode cX12_measures 169 = .ok (.aload_n 0, 1) := by decide +kernel
theorem dX12_measures_170 : decode cX12_measures 170 = .ok (.getfield 281, 3) := by decide +kernel
theorem dX12_measures_173 : decode cX12_measures 173 = .ok (.if_icmp .ge 145, 3) := by decide +kernel
theorem dX12_measures_176 : decode cX12_measures 176 = .ok (.iconst 0, 1) := by decide +kernel
theorem dX12_measures_177 : decode cX12_measures 177 = .ok (.istore_n 3, 1) := by decide +kernel
theorem dX12_measures_178 : decode cX12_measures 178 = .ok (.iload_n 3, 1) := by decide +kernel
theorem dX12_measures_179 : decode cX12_measures 179 = .ok (.aload_n 0, 1) := by decide +kernel
theorem dX12_measures_180 : decode cX12_measures 180 = .ok (.getfield 281, 3) := by decide +kernel
theorem dX12_measures_183 : decode cX12_measures 183 = .ok (.if_icmp .ge 129, 3) := by decide +kernel
theorem dX12_measures_186 : decode cX12_measures 186 = .ok (.iconst 0, 1) := by decide +kernel
theorem dX12_measures_187 : decode cX12_measures 187 = .ok (.istore 4, 2) := by decide +kernel
theorem dX12_measures_189 : decode cX12_measures 189 = .ok (.iload 4, 2) := by decide +kernel
theorem dX12_measures_191 : decode cX12_measures 191 = .ok (.aload_n 0, 1) := by decide +kernel
theorem dX12_measures_192 : decode cX12_measures 192 = .ok (.getfield 281, 3) := by decide +kernel
theorem dX12_measures_195 : decode cX12_measures 195 = .ok (.if_icmp .ge 111, 3) := by decide +kernel
theorem dX12_measures_198 : decode cX12_measures 198 = .ok (.aload_n 0, 1) := by decide +kernel
theorem dX12_measures_199 : decode cX12_measures 199 = .ok (.getfield 87, 3) := by decide +kernel
theorem dX12_measures_202 : decode cX12_measures 202 = .ok (.bipush 8, 2) := by decide +kernel
theorem dX12_measures_204 : decode cX12_measures 204 = .ok (.iload_n 3, 1) := by decide +kernel
theorem dX12_measures_205 : decode cX12_measures 205 = .ok (.imul, 1) := by decide +kernel
theorem dX12_measures_206 : decode cX12_measures 206 = .ok (.iload 4, 2) := by decide +kernel
theorem dX12_measures_208 : decode cX12_measures 208 = .ok (.iadd, 1) := by decide +kernel
theorem dX12_measures_209 : decode cX12_measures 209 = .ok (.aload_n 0, 1) := by decide +kernel
theorem dX12_measures_210 : decode cX12_measures 210 = .ok (.getfield 87, 3) := by decide +kernel
theorem dX12_measures_213 : decode cX12_measures 213 = .ok (.bipush 8, 2) := by decide +kernel
theorem dX12_measures_215 : decode cX12_measures 215 = .ok (.iload_n 3, 1) := by decide +kernel
theorem dX12_measures_216 : decode cX12_measures 216 = .ok (.imul, 1) := by decide +kernel
theorem dX12_measures_217 : decode cX12_measures 217 = .ok (.iload 4, 2) := by decide +kernel
theorem dX12_measures_219 : decode cX12_measures 219 = .ok (.iadd, 1) := by decide +kernel
theorem dX12_measures_220 : decode cX12_measures 220 = .ok (.iaload, 1) := by decide +kernel
theorem dX12_measures_221 : decode cX12_measures 221 = .ok (.aload_n 0, 1) := by decide +kernel
theorem dX12_measures_222 : decode cX12_measures 222 = .ok (.getfield 87, 3) := by decide +kernel
theorem dX12_measures_225 : decode cX12_measures 225 = .ok (.bipush 8, 2) := by decide +kernel
theorem dX12_measures_227 : decode cX12_measures 227 = .ok (.iload_n 3, 1) := by decide +kernel
theorem dX12_measures_228 : decode cX12_measures 228 = .ok (.imul, 1) := by decide +kernel
theorem dX12_measures_229 : decode cX12_measures 229 = .ok (.iload_n 2, 1) := by decide +kernel
theorem dX12_measures_230 : decode cX12_measures 230 = .ok (.iadd, 1) := by decide +kernel
theorem dX12_measures_231 : decode cX12_measures 231 = .ok (.iaload, 1) := by decide +kernel
theorem dX12_measures_232 : decode cX12_measures 232 = .ok (.aload_n 0, 1) := by decide +kernel
theorem dX12_measures_233 : decode cX12_measures 233 = .ok (.getfield 87, 3) := by decide +kernel
theorem dX12_measures_236 : decode cX12_measures 236 = .ok (.bipush 8, 2) := by decide +kernel
theorem dX12_measures_238 : decode cX12_measures 238 = .ok (.iload_n 2, 1) := by decide +kernel
theorem dX12_measures_239 : decode cX12_measures 239 = .ok (.imul, 1) := by decide +kernel
theorem dX12_measures_240 : decode cX12_measures 240 = .ok (.iload 4, 2) := by decide +kernel
theorem dX12_measures_242 : decode cX12_measures 242 = .ok (.iadd, 1) := by decide +kernel
theorem dX12_measures_243 : decode cX12_measures 243 = .ok (.iaload, 1) := by decide +kernel
theorem dX12_measures_244 : decode cX12_measures 244 = .ok (.iadd, 1) := by decide +kernel
theorem dX12_measures_245 : decode cX12_measures 245 = .ok (.invokestatic 323, 3) := by decide +kernel
theorem dX12_measures_248 : decode cX12_measures 248 = .ok (.iastore, 1) := by decide +kernel
theorem dX12_measures_249 : decode cX12_measures 249 = .ok (.aload_n 0, 1) := by decide +kernel
theorem dX12_measures_250 : decode cX12_measures 250 = .ok (.getfield 90, 3) := by decide +kernel
theorem dX12_measures_253 : decode cX12_measures 253 = .ok (.bipush 8, 2) := by decide +kernel
theorem dX12_measures_255 : decode cX12_measures 255 = .ok (.iload_n 3, 1) := by decide +kernel
theorem dX12_measures_256 : decode cX12_measures 256 = .ok (.imul, 1) := by decide +kernel
theorem dX12_measures_257 : decode cX12_measures 257 = .ok (.iload 4, 2) := by decide +kernel
theorem dX12_measures_259 : decode cX12_measures 259 = .ok (.iadd, 1) := by decide +kernel
theorem dX12_measures_260 : decode cX12_measures 260 = .ok (.aload_n 0, 1) := by decide +kernel
theorem dX12_measures_261 : decode cX12_measures 261 = .ok (.getfield 90, 3) := by decide +kernel
theorem dX12_measures_264 : decode cX12_measures 264 = .ok (.bipush 8, 2) := by decide +kernel
theorem dX12_measures_266 : decode cX12_measures 266 = .ok (.iload_n 3, 1) := by decide +kernel
theorem dX12_measures_267 : decode cX12_measures 267 = .ok (.imul, 1) := by decide +kernel
theorem dX12_measures_268 : decode cX12_measures 268 = .ok (.iload 4, 2) := by decide +kernel
theorem dX12_measures_270 : decode cX12_measures 270 = .ok (.iadd, 1) := by decide +kernel
theorem dX12_measures_271 : decode cX12_measures 271 = .ok (.iaload, 1) := by decide +kernel
theorem dX12_measures_272 : decode cX12_measures 272 = .ok (.aload_n 0, 1) := by decide +kernel
theorem dX12_measures_273 : decode cX12_measures 273 = .ok (.getfield 90, 3) := by decide +kernel
theorem dX12_measures_276 : decode cX12_measures 276 = .ok (.bipush 8, 2) := by decide +kernel
theorem dX12_measures_278 : decode cX12_measures 278 = .ok (.iload_n 3, 1) := by decide +kernel
theorem dX12_measures_279 : decode cX12_measures 279 = .ok (.imul, 1) := by decide +kernel
theorem dX12_measures_280 : decode cX12_measures 280 = .ok (.iload_n 2, 1) := by decide +kernel
theorem dX12_measures_281 : decode cX12_measures 281 = .ok (.iadd, 1) := by decide +kernel
theorem dX12_measures_282 : decode cX12_measures 282 = .ok (.iaload, 1) := by decide +kernel
theorem dX12_measures_283 : decode cX12_measures 283 = .ok (.aload_n 0, 1) := by decide +kernel
theorem dX12_measures_284 : decode cX12_measures 284 = .ok (.getfield 90, 3) := by decide +kernel
theorem dX12_measures_287 : decode cX12_measures 287 = .ok (.bipush 8, 2) := by decide +kernel
theorem dX12_measures_289 : decode cX12_measures 289 = .ok (.iload_n 2, 1) := by decide +kernel
theorem dX12_measures_290 : decode cX12_measures 290 = .ok (.imul, 1) := by decide +kernel
theorem dX12_measures_291 : decode cX12_measures 291 = .ok (.iload 4, 2) := by decide +kernel
theorem dX12_measures_293 : decode cX12_measures 293 = .ok (.iadd, 1) := by decide +kernel
theorem dX12_measures_294 : decode cX12_measures 294 = .ok (.iaload, 1) := by decide +kernel
theorem dX12_measures_295 : decode cX12_measures 295 = .ok (.iadd, 1) := by decide +kernel
theorem dX12_measures_296 : decode cX12_measures 296 = .ok (.invokestatic 323, 3) := by decide +kernel
theorem dX12_measures_299 : decode cX12_measures 299 = .ok (.iastore, 1) := by decide +kernel
theorem dX12_measures_300 : decode cX12_measures 300 = .ok (.iinc 4 1, 3) := by decide +kernel
theorem dX12_measures_303 : decode cX12_measures 303 = .ok (.goto (-114), 3) := by decide +kernel
theorem dX12_measures_306 : decode cX12_measures 306 = .ok (.iinc 3 1, 3) := by decide +kernel
theorem dX12_measures_309 : decode cX12_measures 309 = .ok (.goto (-131), 3) := by decide +kernel
theorem dX12_measures_312 : decode cX12_measures 312 = .ok (.iinc 2 1, 3) := by decide +kernel
theorem dX12_measures_315 : decode cX12_measures 315 = .ok (.goto (-147), 3) := by decide +kernel
theorem dX12_measures_318 : decode cX12_measures 318 = .ok (.return_, 1) := by decide +kernel
theorem dX12_orNone_0 : decode cX12_orNone 0 = .ok (.iload_n 0, 1) := by decide +kernel
theorem dX12_orNone_1 : decode cX12_orNone 1 = .ok (.ldc_w 395, 3) := by decide +kernel
theorem dX12_orNone_4 : decode cX12_orNone 4 = .ok (.if_icmp .lt 7, 3) := by decide +kernel
theorem dX12_orNone_7 : decode cX12_orNone 7 = .ok (.iconst (-1), 1) := by decide +kernel
theorem dX12_orNone_8 : decode cX12_orNone 8 = .ok (.goto 4, 3) := by decide +kernel
theorem dX12_orNone_11 : decode cX12_orNone 11 = .ok (.iload_n 0, 1) := by decide +kernel
theorem dX12_orNone_12 : decode cX12_orNone 12 = .ok (.ireturn, 1) := by decide +kernel
theorem dX12_far_0 : decode cX12_far 0 = .ok (.aload_n 0, 1) := by decide +kernel
theorem dX12_far_1 : decode cX12_far 1 = .ok (.iconst 0, 1) := by decide +kernel
theorem dX12_far_2 : decode cX12_far 2 = .ok (.putfield 117, 3) := by decide +kernel
theorem dX12_far_5 : decode cX12_far 5 = .ok (.aload_n 0, 1) := by decide +kernel
theorem dX12_far_6 : decode cX12_far 6 = .ok (.iload_n 1, 1) := by decide +kernel
theorem dX12_far_7 : decode cX12_far 7 = .ok (.invokevirtual 362, 3) := by decide +kernel
theorem dX12_far_10 : decode cX12_far 10 = .ok (.ifCond .eq 11, 3) := by decide +kernel
theorem dX12_far_13 : decode cX12_far 13 = .ok (.aload_n 0, 1) := by decide +kernel
theorem dX12_far_14 : decode cX12_far 14 = .ok (.iload_n 2, 1) := by decide +kernel
theorem dX12_far_15 : decode cX12_far 15 = .ok (.invokevirtual 362, 3) := by decide +kernel
theorem dX12_far_18 : decode cX12_far 18 = .ok (.ifCond .ne 5, 3) := by decide +kernel
theorem dX12_far_21 : decode cX12_far 21 = .ok (.iconst 0, 1) := by decide +kernel
theorem dX12_far_22 : decode cX12_far 22 = .ok (.ireturn, 1) := by decide +kernel
theorem dX12_far_23 : decode cX12_far 23 = .ok (.aload_n 0, 1) := by decide +kernel
theorem dX12_far_24 : decode cX12_far 24 = .ok (.iconst (-1), 1) := by decide +kernel
theorem dX12_far_25 : decode cX12_far 25 = .ok (.invokevirtual 396, 3) := by decide +kernel
theorem dX12_far_28 : decode cX12_far 28 = .ok (.aload_n 0, 1) := by decide +kernel
theorem dX12_far_29 : decode cX12_far 29 = .ok (.getfield 87, 3) := by decide +kernel
theorem dX12_far_32 : decode cX12_far 32 = .ok (.bipush 8, 2) := by decide +kernel
theorem dX12_far_34 : decode cX12_far 34 = .ok (.iload_n 1, 1) := by decide +kernel
theorem dX12_far_35 : decode cX12_far 35 = .ok (.imul, 1) := by decide +kernel
theorem dX12_far_36 : decode cX12_far 36 = .ok (.iload_n 2, 1) := by decide +kernel
theorem dX12_far_37 : decode cX12_far 37 = .ok (.iadd, 1) := by decide +kernel
theorem dX12_far_38 : decode cX12_far 38 = .ok (.iaload, 1) := by decide +kernel
theorem dX12_far_39 : decode cX12_far 39 = .ok (.invokestatic 399, 3) := by decide +kernel
theorem dX12_far_42 : decode cX12_far 42 = .ok (.ireturn, 1) := by decide +kernel
theorem dX12_leak_0 : decode cX12_leak 0 = .ok (.aload_n 0, 1) := by decide +kernel
theorem dX12_leak_1 : decode cX12_leak 1 = .ok (.iconst 0, 1) := by decide +kernel
theorem dX12_leak_2 : decode cX12_leak 2 = .ok (.putfield 117, 3) := by decide +kernel
theorem dX12_leak_5 : decode cX12_leak 5 = .ok (.aload_n 0, 1) := by decide +kernel
theorem dX12_leak_6 : decode cX12_leak 6 = .ok (.iload_n 1, 1) := by decide +kernel
theorem dX12_leak_7 : decode cX12_leak 7 = .ok (.invokevirtual 362, 3) := by decide +kernel
theorem dX12_leak_10 : decode cX12_leak 10 = .ok (.ifCond .eq 11, 3) := by decide +kernel
theorem dX12_leak_13 : decode cX12_leak 13 = .ok (.aload_n 0, 1) := by decide +kernel
theorem dX12_leak_14 : decode cX12_leak 14 = .ok (.iload_n 2, 1) := by decide +kernel
theorem dX12_leak_15 : decode cX12_leak 15 = .ok (.invokevirtual 362, 3) := by decide +kernel
theorem dX12_leak_18 : decode cX12_leak 18 = .ok (.ifCond .ne 5, 3) := by decide +kernel
theorem dX12_leak_21 : decode cX12_leak 21 = .ok (.iconst 0, 1) := by decide +kernel
theorem dX12_leak_22 : decode cX12_leak 22 = .ok (.ireturn, 1) := by decide +kernel
theorem dX12_leak_23 : decode cX12_leak 23 = .ok (.aload_n 0, 1) := by decide +kernel
theorem dX12_leak_24 : decode cX12_leak 24 = .ok (.iconst (-1), 1) := by decide +kernel
theorem dX12_leak_25 : decode cX12_leak 25 = .ok (.invokevirtual 396, 3) := by decide +kernel
theorem dX12_leak_28 : decode cX12_leak 28 = .ok (.aload_n 0, 1) := by decide +kernel
theorem dX12_leak_29 : decode cX12_leak 29 = .ok (.getfield 90, 3) := by decide +kernel
theorem dX12_leak_32 : decode cX12_leak 32 = .ok (.bipush 8, 2) := by decide +kernel
theorem dX12_leak_34 : decode cX12_leak 34 = .ok (.iload_n 1, 1) := by decide +kernel
theorem dX12_leak_35 : decode cX12_leak 35 = .ok (.imul, 1) := by decide +kernel
theorem dX12_leak_36 : decode cX12_leak 36 = .ok (.iload_n 2, 1) := by decide +kernel
theorem dX12_leak_37 : decode cX12_leak 37 = .ok (.iadd, 1) := by decide +kernel
theorem dX12_leak_38 : decode cX12_leak 38 = .ok (.iaload, 1) := by decide +kernel
theorem dX12_leak_39 : decode cX12_leak 39 = .ok (.invokestatic 399, 3) := by decide +kernel
theorem dX12_leak_42 : decode cX12_leak 42 = .ok (.ireturn, 1) := by decide +kernel
theorem dX12_comesTo_0 : decode cX12_comesTo 0 = .ok (.aload_n 0, 1) := by decide +kernel
theorem dX12_comesTo_1 : decode cX12_comesTo 1 = .ok (.getfield 90, 3) := by decide +kernel
theorem dX12_comesTo_4 : decode cX12_comesTo 4 = .ok (.bipush 8, 2) := by decide +kernel
theorem dX12_comesTo_6 : decode cX12_comesTo 6 = .ok (.aload_n 0, 1) := by decide +kernel
theorem dX12_comesTo_7 : decode cX12_comesTo 7 = .ok (.getfield 75, 3) := by decide +kernel
theorem dX12_comesTo_10 : decode cX12_comesTo 10 = .ok (.bipush 55, 2) := by decide +kernel
theorem dX12_comesTo_12 : decode cX12_comesTo 12 = .ok (.iload_n 1, 1) := by decide +kernel
theorem dX12_comesTo_13 : decode cX12_comesTo 13 = .ok (.iadd, 1) := by decide +kernel
theorem dX12_comesTo_14 : decode cX12_comesTo 14 = .ok (.iaload, 1) := by decide +kernel
theorem dX12_comesTo_15 : decode cX12_comesTo 15 = .ok (.imul, 1) := by decide +kernel
theorem dX12_comesTo_16 : decode cX12_comesTo 16 = .ok (.iload_n 2, 1) := by decide +kernel
theorem dX12_comesTo_17 : decode cX12_comesTo 17 = .ok (.iadd, 1) := by decide +kernel
theorem dX12_comesTo_18 : decode cX12_comesTo 18 = .ok (.iaload, 1) := by decide +kernel
theorem dX12_comesTo_19 : decode cX12_comesTo 19 = .ok (.istore_n 3, 1) := by decide +kernel
theorem dX12_comesTo_20 : decode cX12_comesTo 20 = .ok (.iload_n 3, 1) := by decide +kernel
theorem dX12_comesTo_21 : decode cX12_comesTo 21 = .ok (.ldc_w 395, 3) := by decide +kernel
theorem dX12_comesTo_24 : decode cX12_comesTo 24 = .ok (.if_icmp .lt 5, 3) := by decide +kernel
theorem dX12_comesTo_27 : decode cX12_comesTo 27 = .ok (.iconst 0, 1) := by decide +kernel
theorem dX12_comesTo_28 : decode cX12_comesTo 28 = .ok (.ireturn, 1) := by decide +kernel
theorem dX12_comesTo_29 : decode cX12_comesTo 29 = .ok (.aload_n 0, 1) := by decide +kernel
theorem dX12_comesTo_30 : decode cX12_comesTo 30 = .ok (.getfield 75, 3) := by decide +kernel
theorem dX12_comesTo_33 : decode cX12_comesTo 33 = .ok (.bipush 25, 2) := by decide +kernel
theorem dX12_comesTo_35 : decode cX12_comesTo 35 = .ok (.iload_n 1, 1) := by decide +kernel
theorem dX12_comesTo_36 : decode cX12_comesTo 36 = .ok (.iadd, 1) := by decide +kernel
theorem dX12_comesTo_37 : decode cX12_comesTo 37 = .ok (.iaload, 1) := by decide +kernel
theorem dX12_comesTo_38 : decode cX12_comesTo 38 = .ok (.aload_n 0, 1) := by decide +kernel
theorem dX12_comesTo_39 : decode cX12_comesTo 39 = .ok (.getfield 75, 3) := by decide +kernel
theorem dX12_comesTo_42 : decode cX12_comesTo 42 = .ok (.bipush 45, 2) := by decide +kernel
theorem dX12_comesTo_44 : decode cX12_comesTo 44 = .ok (.iload_n 1, 1) := by decide +kernel
theorem dX12_comesTo_45 : decode cX12_comesTo 45 = .ok (.iadd, 1) := by decide +kernel
theorem dX12_comesTo_46 : decode cX12_comesTo 46 = .ok (.iaload, 1) := by decide +kernel
theorem dX12_comesTo_47 : decode cX12_comesTo 47 = .ok (.iconst 1, 1) := by decide +kernel
theorem dX12_comesTo_48 : decode cX12_comesTo 48 = .ok (.if_icmp .ne 7, 3) := by decide +kernel
theorem dX12_comesTo_51 : decode cX12_comesTo 51 = .ok (.iconst 0, 1) := by decide +kernel
theorem dX12_comesTo_52 : decode cX12_comesTo 52 = .ok (.goto 4, 3) := by decide +kernel
theorem dX12_comesTo_55 : decode cX12_comesTo 55 = .ok (.iload_n 3, 1) := by decide +kernel
theorem dX12_comesTo_56 : decode cX12_comesTo 56 = .ok (.isub, 1) := by decide +kernel
theorem dX12_comesTo_57 : decode cX12_comesTo 57 = .ok (.istore 4, 2) := by decide +kernel
theorem dX12_comesTo_59 : decode cX12_comesTo 59 = .ok (.iload 4, 2) := by decide +kernel
theorem dX12_comesTo_61 : decode cX12_comesTo 61 = .ok (.ifCond .ge 7, 3) := by decide +kernel
theorem dX12_comesTo_64 : decode cX12_comesTo 64 = .ok (.iconst 0, 1) := by decide +kernel
theorem dX12_comesTo_65 : decode cX12_comesTo 65 = .ok (.goto 5, 3) := by decide +kernel
theorem dX12_comesTo_68 : decode cX12_comesTo 68 = .ok (.iload 4, 2) := by decide +kernel
theorem dX12_comesTo_70 : decode cX12_comesTo 70 = .ok (.ireturn, 1) := by decide +kernel
theorem dX12_sending_0 : decode cX12_sending 0 = .ok (.aload_n 0, 1) := by decide +kernel
theorem dX12_sending_1 : decode cX12_sending 1 = .ok (.iconst 0, 1) := by decide +kernel
theorem dX12_sending_2 : decode cX12_sending 2 = .ok (.putfield 117, 3) := by decide +kernel
theorem dX12_sending_5 : decode cX12_sending 5 = .ok (.aload_n 0, 1) := by decide +kernel
theorem dX12_sending_6 : decode cX12_sending 6 = .ok (.iload_n 1, 1) := by decide +kernel
theorem dX12_sending_7 : decode cX12_sending 7 = .ok (.invokevirtual 362, 3) := by decide +kernel
theorem dX12_sending_10 : decode cX12_sending 10 = .ok (.ifCond .eq 19, 3) := by decide +kernel
theorem dX12_sending_13 : decode cX12_sending 13 = .ok (.aload_n 0, 1) := by decide +kernel
theorem dX12_sending_14 : decode cX12_sending 14 = .ok (.iload_n 2, 1) := by decide +kernel
theorem dX12_sending_15 : decode cX12_sending 15 = .ok (.iconst 1, 1) := by decide +kernel
theorem dX12_sending_16 : decode cX12_sending 16 = .ok (.sipush 999, 3) := by decide +kernel
theorem dX12_sending_19 : decode cX12_sending 19 = .ok (.invokestatic 346, 3) := by decide +kernel
theorem dX12_sending_22 : decode cX12_sending 22 = .ok (.iconst 2, 1) := by decide +kernel
theorem dX12_sending_23 : decode cX12_sending 23 = .ok (.invokevirtual 274, 3) := by decide +kernel
theorem dX12_sending_26 : decode cX12_sending 26 = .ok (.ifCond .ne 5, 3) := by decide +kernel
theorem dX12_sending_29 : decode cX12_sending 29 = .ok (.iconst 0, 1) := by decide +kernel
theorem dX12_sending_30 : decode cX12_sending 30 = .ok (.ireturn, 1) := by decide +kernel
theorem dX12_sending_31 : decode cX12_sending 31 = .ok (.aload_n 0, 1) := by decide +kernel
theorem dX12_sending_32 : decode cX12_sending 32 = .ok (.iconst (-1), 1) := by decide +kernel
theorem dX12_sending_33 : decode cX12_sending 33 = .ok (.invokevirtual 396, 3) := by decide +kernel
theorem dX12_sending_36 : decode cX12_sending 36 = .ok (.iconst 0, 1) := by decide +kernel
theorem dX12_sending_37 : decode cX12_sending 37 = .ok (.istore_n 3, 1) := by decide +kernel
theorem dX12_sending_38 : decode cX12_sending 38 = .ok (.iconst 0, 1) := by decide +kernel
theorem dX12_sending_39 : decode cX12_sending 39 = .ok (.istore 4, 2) := by decide +kernel
theorem dX12_sending_41 : decode cX12_sending 41 = .ok (.iload 4, 2) := by decide +kernel
theorem dX12_sending_43 : decode cX12_sending 43 = .ok (.aload_n 0, 1) := by decide +kernel
theorem dX12_sending_44 : decode cX12_sending 44 = .ok (.getfield 287, 3) := by decide +kernel
theorem dX12_sending_47 : decode cX12_sending 47 = .ok (.if_icmp .ge 69, 3) := by decide +kernel
theorem dX12_sending_50 : decode cX12_sending 50 = .ok (.iload_n 3, 1) := by decide +kernel
theorem dX12_sending_51 : decode cX12_sending 51 = .ok (.aload_n 0, 1) := by decide +kernel
theorem dX12_sending_52 : decode cX12_sending 52 = .ok (.iconst 0, 1) := by decide +kernel
theorem dX12_sending_53 : decode cX12_sending 53 = .ok (.iload 4, 2) := by decide +kernel
theorem dX12_sending_55 : decode cX12_sending 55 = .ok (.invokevirtual 308, 3) := by decide +kernel
theorem dX12_sending_58 : decode cX12_sending 58 = .ok (.ifCond .eq 49, 3) := by decide +kernel
theorem dX12_sending_61 : decode cX12_sending 61 = .ok (.aload_n 0, 1) := by decide +kernel
theorem dX12_sending_62 : decode cX12_sending 62 = .ok (.getfield 75, 3) := by decide +kernel
theorem dX12_sending_65 : decode cX12_sending 65 = .ok (.bipush 35, 2) := by decide +kernel
theorem dX12_sending_67 : decode cX12_sending 67 = .ok (.iload 4, 2) := by decide +kernel
theorem dX12_sending_69 : decode cX12_sending 69 = .ok (.iadd, 1) := by decide +kernel
theorem dX12_sending_70 : decode cX12_sending 70 = .ok (.iaload, 1) := by decide +kernel
theorem dX12_sending_71 : decode cX12_sending 71 = .ok (.ifCond .ne 36, 3) := by decide +kernel
theorem dX12_sending_74 : decode cX12_sending 74 = .ok (.aload_n 0, 1) := by decide +kernel
theorem dX12_sending_75 : decode cX12_sending 75 = .ok (.getfield 90, 3) := by decide +kernel
theorem dX12_sending_78 : decode cX12_sending 78 = .ok (.bipush 8, 2) := by decide +kernel
theorem dX12_sending_80 : decode cX12_sending 80 = .ok (.aload_n 0, 1) := by decide +kernel
theorem dX12_sending_81 : decode cX12_sending 81 = .ok (.getfield 75, 3) := by decide +kernel
theorem dX12_sending_84 : decode cX12_sending 84 = .ok (.bipush 55, 2) := by decide +kernel
theorem dX12_sending_86 : decode cX12_sending 86 = .ok (.iload 4, 2) := by decide +kernel
theorem dX12_sending_88 : decode cX12_sending 88 = .ok (.iadd, 1) := by decide +kernel
theorem dX12_sending_89 : decode cX12_sending 89 = .ok (.iaload, 1) := by decide +kernel
theorem dX12_sending_90 : decode cX12_sending 90 = .ok (.imul, 1) := by decide +kernel
theorem dX12_sending_91 : decode cX12_sending 91 = .ok (.iload_n 1, 1) := by decide +kernel
theorem dX12_sending_92 : decode cX12_sending 92 = .ok (.iadd, 1) := by decide +kernel
theorem dX12_sending_93 : decode cX12_sending 93 = .ok (.iaload, 1) := by decide +kernel
theorem dX12_sending_94 : decode cX12_sending 94 = .ok (.ldc_w 395, 3) := by decide +kernel
theorem dX12_sending_97 : decode cX12_sending 97 = .ok (.if_icmp .ge 10, 3) := by decide +kernel
theorem dX12_sending_100 : decode cX12_sending 100 = .ok (.iconst 1, 1) := by decide +kernel
theorem dX12_sending_101 : decode cX12_sending 101 = .ok (.iload 4, 2) := by decide +kernel
theorem dX12_sending_103 : decode cX12_sending 103 = .ok (.ishl, 1) := by decide +kernel
theorem dX12_sending_104 : decode cX12_sending 104 = .ok (.goto 4, 3) := by decide +kernel
theorem dX12_sending_107 : decode cX12_sending 107 = .ok (.iconst 0, 1) := by decide +kernel
theorem dX12_sending_108 : decode cX12_sending 108 = .ok (.ior, 1) := by decide +kernel
theorem dX12_sending_109 : decode cX12_sending 109 = .ok (.istore_n 3, 1) := by decide +kernel
theorem dX12_sending_110 : decode cX12_sending 110 = .ok (.iinc 4 1, 3) := by decide +kernel
theorem dX12_sending_113 : decode cX12_sending 113 = .ok (.goto (-72), 3) := by decide +kernel
theorem dX12_sending_116 : decode cX12_sending 116 = .ok (.iconst (-1), 1) := by decide +kernel
theorem dX12_sending_117 : decode cX12_sending 117 = .ok (.istore 4, 2) := by decide +kernel
theorem dX12_sending_119 : decode cX12_sending 119 = .ok (.iconst 0, 1) := by decide +kernel
theorem dX12_sending_120 : decode cX12_sending 120 = .ok (.istore 5, 2) := by decide +kernel
theorem dX12_sending_122 : decode cX12_sending 122 = .ok (.iload 5, 2) := by decide +kernel
theorem dX12_sending_124 : decode cX12_sending 124 = .ok (.iload_n 3, 1) := by decide +kernel
theorem dX12_sending_125 : decode cX12_sending 125 = .ok (.if_icmp .gt 103, 3) := by decide +kernel
theorem dX12_sending_128 : decode cX12_sending 128 = .ok (.iload 5, 2) := by decide +kernel
theorem dX12_sending_130 : decode cX12_sending 130 = .ok (.iload_n 3, 1) := by decide +kernel
theorem dX12_sending_131 : decode cX12_sending 131 = .ok (.iconst (-1), 1) := by decide +kernel
theorem dX12_sending_132 : decode cX12_sending 132 = .ok (.ixor, 1) := by decide +kernel
theorem dX12_sending_133 : decode cX12_sending 133 = .ok (.iand, 1) := by decide +kernel
theorem dX12_sending_134 : decode cX12_sending 134 = .ok (.ifCond .ne 88, 3) := by decide +kernel
theorem dX12_sending_137 : decode cX12_sending 137 = .ok (.iload 4, 2) := by decide +kernel
theorem dX12_sending_139 : decode cX12_sending 139 = .ok (.iconst (-1), 1) := by decide +kernel
theorem dX12_sending_140 : decode cX12_sending 140 = .ok (.if_icmp .eq 19, 3) := by decide +kernel
theorem dX12_sending_143 : decode cX12_sending 143 = .ok (.iload 5, 2) := by decide +kernel
theorem dX12_sending_145 : decode cX12_sending 145 = .ok (.invokestatic 317, 3) := by decide +kernel
theorem dX12_sending_148 : decode cX12_sending 148 = .ok (.iload 4, 2) := by decide +kernel
theorem dX12_sending_150 : decode cX12_sending 150 = .ok (.invokestatic 317, 3) := by decide +kernel
theorem dX12_sending_153 : decode cX12_sending 153 = .ok (.if_icmp .lt 6, 3) := by decide +kernel
theorem dX12_sending_156 : decode cX12_sending 156 = .ok (.goto 66, 3) := by decide +kernel
theorem dX12_sending_159 : decode cX12_sending 159 = .ok (.iconst 0, 1) := by decide +kernel
theorem dX12_sending_160 : decode cX12_sending 160 = .ok (.istore 6, 2) := by decide +kernel
theorem dX12_sending_162 : decode cX12_sending 162 = .ok (.iconst 0, 1) := by decide +kernel
theorem dX12_sending_163 : decode cX12_sending 163 = .ok (.istore 7, 2) := by decide +kernel
theorem dX12_sending_165 : decode cX12_sending 165 = .ok (.iload 7, 2) := by decide +kernel
theorem dX12_sending_167 : decode cX12_sending 167 = .ok (.aload_n 0, 1) := by decide +kernel
theorem dX12_sending_168 : decode cX12_sending 168 = .ok (.getfield 287, 3) := by decide +kernel
theorem dX12_sending_171 : decode cX12_sending 171 = .ok (.if_icmp .ge 36, 3) := by decide +kernel
theorem dX12_sending_174 : decode cX12_sending 174 = .ok (.iload 6, 2) := by decide +kernel
theorem dX12_sending_176 : decode cX12_sending 176 = .ok (.iload 5, 2) := by decide +kernel
theorem dX12_sending_178 : decode cX12_sending 178 = .ok (.iload 7, 2) := by decide +kernel
theorem dX12_sending_180 : decode cX12_sending 180 = .ok (.ishr, 1) := by decide +kernel
theorem dX12_sending_181 : decode cX12_sending 181 = .ok (.iconst 1, 1) := by decide +kernel
theorem dX12_sending_182 : decode cX12_sending 182 = .ok (.iand, 1) := by decide +kernel
theorem dX12_sending_183 : decode cX12_sending 183 = .ok (.iconst 1, 1) := by decide +kernel
theorem dX12_sending_184 : decode cX12_sending 184 = .ok (.if_icmp .ne 13, 3) := by decide +kernel
theorem dX12_sending_187 : decode cX12_sending 187 = .ok (.aload_n 0, 1) := by decide +kernel
theorem dX12_sending_188 : decode cX12_sending 188 = .ok (.iload 7, 2) := by decide +kernel
theorem dX12_sending_190 : decode cX12_sending 190 = .ok (.iload_n 1, 1) := by decide +kernel
theorem dX12_sending_191 : decode cX12_sending 191 = .ok (.invokevirtual 402, 3) := by decide +kernel
theorem dX12_sending_194 : decode cX12_sending 194 = .ok (.goto 4, 3) := by decide +kernel
theorem dX12_sending_197 : decode cX12_sending 197 = .ok (.iconst 0, 1) := by decide +kernel
theorem dX12_sending_198 : decode cX12_sending 198 = .ok (.iadd, 1) := by decide +kernel
theorem dX12_sending_199 : decode cX12_sending 199 = .ok (.istore 6, 2) := by decide +kernel
theorem dX12_sending_201 : decode cX12_sending 201 = .ok (.iinc 7 1, 3) := by decide +kernel
theorem dX12_sending_204 : decode cX12_sending 204 = .ok (.goto (-39), 3) := by decide +kernel
theorem dX12_sending_207 : decode cX12_sending 207 = .ok (.iload 6, 2) := by decide +kernel
theorem dX12_sending_209 : decode cX12_sending 209 = .ok (.iload_n 2, 1) := by decide +kernel
theorem dX12_sending_210 : decode cX12_sending 210 = .ok (.if_icmp .lt 8, 3) := by decide +kernel
theorem dX12_sending_213 : decode cX12_sending 213 = .ok (.iload 5, 2) := by decide +kernel
theorem dX12_sending_215 : decode cX12_sending 215 = .ok (.goto 5, 3) := by decide +kernel
theorem dX12_sending_218 : decode cX12_sending 218 = .ok (.iload 4, 2) := by decide +kernel
theorem dX12_sending_220 : decode cX12_sending 220 = .ok (.istore 4, 2) := by decide +kernel
theorem dX12_sending_222 : decode cX12_sending 222 = .ok (.iinc 5 1, 3) := by decide +kernel
theorem dX12_sending_225 : decode cX12_sending 225 = .ok (.goto (-103), 3) := by decide +kernel
theorem dX12_sending_228 : decode cX12_sending 228 = .ok (.iload 4, 2) := by decide +kernel
theorem dX12_sending_230 : decode cX12_sending 230 = .ok (.ireturn, 1) := by decide +kernel
theorem dX12_nextOn_0 : decode cX12_nextOn 0 = .ok (.iconst 0, 1) := by decide +kernel
theorem dX12_nextOn_1 : decode cX12_nextOn 1 = .ok (.istore_n 3, 1) := by decide +kernel
theorem dX12_nextOn_2 : decode cX12_nextOn 2 = .ok (.iload_n 3, 1) := by decide +kernel
theorem dX12_nextOn_3 : decode cX12_nextOn 3 = .ok (.aload_n 0, 1) := by decide +kernel
theorem dX12_nextOn_4 : decode cX12_nextOn 4 = .ok (.getfield 281, 3) := by decide +kernel
theorem dX12_nextOn_7 : decode cX12_nextOn 7 = .ok (.if_icmp .ge 101, 3) := by decide +kernel
theorem dX12_nextOn_10 : decode cX12_nextOn 10 = .ok (.iload_n 3, 1) := by decide +kernel
theorem dX12_nextOn_11 : decode cX12_nextOn 11 = .ok (.iload_n 1, 1) := by decide +kernel
theorem dX12_nextOn_12 : decode cX12_nextOn 12 = .ok (.if_icmp .ne 6, 3) := by decide +kernel
theorem dX12_nextOn_15 : decode cX12_nextOn 15 = .ok (.goto 87, 3) := by decide +kernel
theorem dX12_nextOn_18 : decode cX12_nextOn 18 = .ok (.iconst 0, 1) := by decide +kernel
theorem dX12_nextOn_19 : decode cX12_nextOn 19 = .ok (.istore 4, 2) := by decide +kernel
theorem dX12_nextOn_21 : decode cX12_nextOn 21 = .ok (.iconst 0, 1) := by decide +kernel
theorem dX12_nextOn_22 : decode cX12_nextOn 22 = .ok (.istore 5, 2) := by decide +kernel
theorem dX12_nextOn_24 : decode cX12_nextOn 24 = .ok (.iload 5, 2) := by decide +kernel
theorem dX12_nextOn_26 : decode cX12_nextOn 26 = .ok (.aload_n 0, 1) := by decide +kernel
theorem dX12_nextOn_27 : decode cX12_nextOn 27 = .ok (.getfield 284, 3) := by decide +kernel
theorem dX12_nextOn_30 : decode cX12_nextOn 30 = .ok (.if_icmp .ge 65, 3) := by decide +kernel
theorem dX12_nextOn_33 : decode cX12_nextOn 33 = .ok (.iload 4, 2) := by decide +kernel
theorem dX12_nextOn_35 : decode cX12_nextOn 35 = .ok (.ifCond .ne 47, 3) := by decide +kernel
theorem dX12_nextOn_38 : decode cX12_nextOn 38 = .ok (.aload_n 0, 1) := by decide +kernel
theorem dX12_nextOn_39 : decode cX12_nextOn 39 = .ok (.iload 5, 2) := by decide +kernel
theorem dX12_nextOn_41 : decode cX12_nextOn 41 = .ok (.iload_n 1, 1) := by decide +kernel
theorem dX12_nextOn_42 : decode cX12_nextOn 42 = .ok (.invokevirtual 380, 3) := by decide +kernel
theorem dX12_nextOn_45 : decode cX12_nextOn 45 = .ok (.iload_n 3, 1) := by decide +kernel
theorem dX12_nextOn_46 : decode cX12_nextOn 46 = .ok (.if_icmp .ne 40, 3) := by decide +kernel
theorem dX12_nextOn_49 : decode cX12_nextOn 49 = .ok (.aload_n 0, 1) := by decide +kernel
theorem dX12_nextOn_50 : decode cX12_nextOn 50 = .ok (.getfield 26, 3) := by decide +kernel
theorem dX12_nextOn_53 : decode cX12_nextOn 53 = .ok (.iload 5, 2) := by decide +kernel
theorem dX12_nextOn_55 : decode cX12_nextOn 55 = .ok (.iaload, 1) := by decide +kernel
theorem dX12_nextOn_56 : decode cX12_nextOn 56 = .ok (.aload_n 0, 1) := by decide +kernel
theorem dX12_nextOn_57 : decode cX12_nextOn 57 = .ok (.getfield 87, 3) := by decide +kernel
theorem dX12_nextOn_60 : decode cX12_nextOn 60 = .ok (.bipush 8, 2) := by decide +kernel
theorem dX12_nextOn_62 : decode cX12_nextOn 62 = .ok (.iload_n 3, 1) := by decide +kernel
theorem dX12_nextOn_63 : decode cX12_nextOn 63 = .ok (.imul, 1) := by decide +kernel
theorem dX12_nextOn_64 : decode cX12_nextOn 64 = .ok (.iload_n 2, 1) := by decide +kernel
theorem dX12_nextOn_65 : decode cX12_nextOn 65 = .ok (.iadd, 1) := by decide +kernel
theorem dX12_nextOn_66 : decode cX12_nextOn 66 = .ok (.iaload, 1) := by decide +kernel
theorem dX12_nextOn_67 : decode cX12_nextOn 67 = .ok (.iadd, 1) := by decide +kernel
theorem dX12_nextOn_68 : decode cX12_nextOn 68 = .ok (.aload_n 0, 1) := by decide +kernel
theorem dX12_nextOn_69 : decode cX12_nextOn 69 = .ok (.getfield 87, 3) := by decide +kernel
theorem dX12_nextOn_72 : decode cX12_nextOn 72 = .ok (.bipush 8, 2) := by decide +kernel
theorem dX12_nextOn_74 : decode cX12_nextOn 74 = .ok (.iload_n 1, 1) := by decide +kernel
theorem dX12_nextOn_75 : decode cX12_nextOn 75 = .ok (.imul, 1) := by decide +kernel
theorem dX12_nextOn_76 : decode cX12_nextOn 76 = .ok (.iload_n 2, 1) := by decide +kernel
theorem dX12_nextOn_77 : decode cX12_nextOn 77 = .ok (.iadd, 1) := by decide +kernel
theorem dX12_nextOn_78 : decode cX12_nextOn 78 = .ok (.iaload, 1) := by decide +kernel
theorem dX12_nextOn_79 : decode cX12_nextOn 79 = .ok (.if_icmp .ne 7, 3) := by decide +kernel
theorem dX12_nextOn_82 : decode cX12_nextOn 82 = .ok (.iconst 1, 1) := by decide +kernel
theorem dX12_nextOn_83 : decode cX12_nextOn 83 = .ok (.goto 4, 3) := by decide +kernel
theorem dX12_nextOn_86 : decode cX12_nextOn 86 = .ok (.iconst 0, 1) := by decide +kernel
theorem dX12_nextOn_87 : decode cX12_nextOn 87 = .ok (.istore 4, 2) := by decide +kernel
theorem dX12_nextOn_89 : decode cX12_nextOn 89 = .ok (.iinc 5 1, 3) := by decide +kernel
theorem dX12_nextOn_92 : decode cX12_nextOn 92 = .ok (.goto (-68), 3) := by decide +kernel
theorem dX12_nextOn_95 : decode cX12_nextOn 95 = .ok (.iload 4, 2) := by decide +kernel
theorem dX12_nextOn_97 : decode cX12_nextOn 97 = .ok (.ifCond .eq 5, 3) := by decide +kernel
theorem dX12_nextOn_100 : decode cX12_nextOn 100 = .ok (.iload_n 3, 1) := by decide +kernel
theorem dX12_nextOn_101 : decode cX12_nextOn 101 = .ok (.ireturn, 1) := by decide +kernel
theorem dX12_nextOn_102 : decode cX12_nextOn 102 = .ok (.iinc 3 1, 3) := by decide +kernel
theorem dX12_nextOn_105 : decode cX12_nextOn 105 = .ok (.goto (-103), 3) := by decide +kernel
theorem dX12_nextOn_108 : decode cX12_nextOn 108 = .ok (.iconst (-1), 1) := by decide +kernel
theorem dX12_nextOn_109 : decode cX12_nextOn 109 = .ok (.ireturn, 1) := by decide +kernel
theorem dX12_row_0 : decode cX12_row 0 = .ok (.aload_n 0, 1) := by decide +kernel
theorem dX12_row_1 : decode cX12_row 1 = .ok (.iconst 0, 1) := by decide +kernel
theorem dX12_row_2 : decode cX12_row 2 = .ok (.putfield 117, 3) := by decide +kernel
theorem dX12_row_5 : decode cX12_row 5 = .ok (.aload_n 0, 1) := by decide +kernel
theorem dX12_row_6 : decode cX12_row 6 = .ok (.iload_n 1, 1) := by decide +kernel
theorem dX12_row_7 : decode cX12_row 7 = .ok (.invokevirtual 362, 3) := by decide +kernel
theorem dX12_row_10 : decode cX12_row 10 = .ok (.ifCond .eq 11, 3) := by decide +kernel
theorem dX12_row_13 : decode cX12_row 13 = .ok (.aload_n 0, 1) := by decide +kernel
theorem dX12_row_14 : decode cX12_row 14 = .ok (.iload_n 2, 1) := by decide +kernel
theorem dX12_row_15 : decode cX12_row 15 = .ok (.invokevirtual 362, 3) := by decide +kernel
theorem dX12_row_18 : decode cX12_row 18 = .ok (.ifCond .ne 5, 3) := by decide +kernel
theorem dX12_row_21 : decode cX12_row 21 = .ok (.iconst 0, 1) := by decide +kernel
theorem dX12_row_22 : decode cX12_row 22 = .ok (.ireturn, 1) := by decide +kernel
theorem dX12_row_23 : decode cX12_row 23 = .ok (.aload_n 0, 1) := by decide +kernel
theorem dX12_row_24 : decode cX12_row 24 = .ok (.iconst (-1), 1) := by decide +kernel
theorem dX12_row_25 : decode cX12_row 25 = .ok (.invokevirtual 396, 3) := by decide +kernel
theorem dX12_row_28 : decode cX12_row 28 = .ok (.aload_n 0, 1) := by decide +kernel
theorem dX12_row_29 : decode cX12_row 29 = .ok (.iload_n 3, 1) := by decide +kernel
theorem dX12_row_30 : decode cX12_row 30 = .ok (.ifCond .lt 24, 3) := by decide +kernel
theorem dX12_row_33 : decode cX12_row 33 = .ok (.aload_n 0, 1) := by decide +kernel
theorem dX12_row_34 : decode cX12_row 34 = .ok (.getfield 87, 3) := by decide +kernel
theorem dX12_row_37 : decode cX12_row 37 = .ok (.bipush 8, 2) := by decide +kernel
theorem dX12_row_39 : decode cX12_row 39 = .ok (.iload_n 1, 1) := by decide +kernel
theorem dX12_row_40 : decode cX12_row 40 = .ok (.imul, 1) := by decide +kernel
theorem dX12_row_41 : decode cX12_row 41 = .ok (.iload_n 2, 1) := by decide +kernel
theorem dX12_row_42 : decode cX12_row 42 = .ok (.iadd, 1) := by decide +kernel
theorem dX12_row_43 : decode cX12_row 43 = .ok (.iaload, 1) := by decide +kernel
theorem dX12_row_44 : decode cX12_row 44 = .ok (.ldc_w 395, 3) := by decide +kernel
theorem dX12_row_47 : decode cX12_row 47 = .ok (.if_icmp .ge 7, 3) := by decide +kernel
theorem dX12_row_50 : decode cX12_row 50 = .ok (.iconst 1, 1) := by decide +kernel
theorem dX12_row_51 : decode cX12_row 51 = .ok (.goto 4, 3) := by decide +kernel
theorem dX12_row_54 : decode cX12_row 54 = .ok (.iconst 0, 1) := by decide +kernel
theorem dX12_row_55 : decode cX12_row 55 = .ok (.iconst 1, 1) := by decide +kernel
theorem dX12_row_56 : decode cX12_row 56 = .ok (.invokevirtual 274, 3) := by decide +kernel
theorem dX12_row_59 : decode cX12_row 59 = .ok (.ifCond .ne 5, 3) := by decide +kernel
theorem dX12_row_62 : decode cX12_row 62 = .ok (.iconst 0, 1) := by decide +kernel
theorem dX12_row_63 : decode cX12_row 63 = .ok (.ireturn, 1) := by decide +kernel
theorem dX12_row_64 : decode cX12_row 64 = .ok (.iload_n 1, 1) := by decide +kernel
theorem dX12_row_65 : decode cX12_row 65 = .ok (.istore 4, 2) := by decide +kernel
theorem dX12_row_67 : decode cX12_row 67 = .ok (.iconst 0, 1) := by decide +kernel
theorem dX12_row_68 : decode cX12_row 68 = .ok (.istore 5, 2) := by decide +kernel
theorem dX12_row_70 : decode cX12_row 70 = .ok (.iload 5, 2) := by decide +kernel
theorem dX12_row_72 : decode cX12_row 72 = .ok (.iload_n 3, 1) := by decide +kernel
theorem dX12_row_73 : decode cX12_row 73 = .ok (.if_icmp .ge 24, 3) := by decide +kernel
theorem dX12_row_76 : decode cX12_row 76 = .ok (.iload 4, 2) := by decide +kernel
theorem dX12_row_78 : decode cX12_row 78 = .ok (.iload_n 2, 1) := by decide +kernel
theorem dX12_row_79 : decode cX12_row 79 = .ok (.if_icmp .eq 18, 3) := by decide +kernel
theorem dX12_row_82 : decode cX12_row 82 = .ok (.aload_n 0, 1) := by decide +kernel
theorem dX12_row_83 : decode cX12_row 83 = .ok (.iload 4, 2) := by decide +kernel
theorem dX12_row_85 : decode cX12_row 85 = .ok (.iload_n 2, 1) := by decide +kernel
theorem dX12_row_86 : decode cX12_row 86 = .ok (.invokevirtual 405, 3) := by decide +kernel
theorem dX12_row_89 : decode cX12_row 89 = .ok (.istore 4, 2) := by decide +kernel
theorem dX12_row_91 : decode cX12_row 91 = .ok (.iinc 5 1, 3) := by decide +kernel
theorem dX12_row_94 : decode cX12_row 94 = .ok (.goto (-24), 3) := by decide +kernel
theorem dX12_row_97 : decode cX12_row 97 = .ok (.aload_n 0, 1) := by decide +kernel
theorem dX12_row_98 : decode cX12_row 98 = .ok (.iload 5, 2) := by decide +kernel
theorem dX12_row_100 : decode cX12_row 100 = .ok (.iload_n 3, 1) := by decide +kernel
theorem dX12_row_101 : decode cX12_row 101 = .ok (.if_icmp .ne 7, 3) := by decide +kernel
theorem dX12_row_104 : decode cX12_row 104 = .ok (.iconst 1, 1) := by decide +kernel
theorem dX12_row_105 : decode cX12_row 105 = .ok (.goto 4, 3) := by decide +kernel
theorem dX12_row_108 : decode cX12_row 108 = .ok (.iconst 0, 1) := by decide +kernel
theorem dX12_row_109 : decode cX12_row 109 = .ok (.iconst 1, 1) := by decide +kernel
theorem dX12_row_110 : decode cX12_row 110 = .ok (.invokevirtual 274, 3) := by decide +kernel
theorem dX12_row_113 : decode cX12_row 113 = .ok (.ifCond .eq 8, 3) := by decide +kernel
theorem dX12_row_116 : decode cX12_row 116 = .ok (.iload 4, 2) := by decide +kernel
theorem dX12_row_118 : decode cX12_row 118 = .ok (.goto 4, 3) := by decide +kernel
theorem dX12_row_121 : decode cX12_row 121 = .ok (.iconst 0, 1) := by decide +kernel
theorem dX12_row_122 : decode cX12_row 122 = .ok (.ireturn, 1) := by decide +kernel
theorem dX12_hub_0 : decode cX12_hub 0 = .ok (.aload_n 0, 1) := by decide +kernel
theorem dX12_hub_1 : decode cX12_hub 1 = .ok (.iconst 0, 1) := by decide +kernel
theorem dX12_hub_2 : decode cX12_hub 2 = .ok (.putfield 117, 3) := by decide +kernel
theorem dX12_hub_5 : decode cX12_hub 5 = .ok (.aload_n 0, 1) := by decide +kernel
theorem dX12_hub_6 : decode cX12_hub 6 = .ok (.iconst (-1), 1) := by decide +kernel
theorem dX12_hub_7 : decode cX12_hub 7 = .ok (.invokevirtual 396, 3) := by decide +kernel
theorem dX12_hub_10 : decode cX12_hub 10 = .ok (.iconst (-1), 1) := by decide +kernel
theorem dX12_hub_11 : decode cX12_hub 11 = .ok (.istore_n 1, 1) := by decide +kernel
theorem dX12_hub_12 : decode cX12_hub 12 = .ok (.ldc_w 395, 3) := by decide +kernel
theorem dX12_hub_15 : decode cX12_hub 15 = .ok (.istore_n 2, 1) := by decide +kernel
theorem dX12_hub_16 : decode cX12_hub 16 = .ok (.iconst 0, 1) := by decide +kernel
theorem dX12_hub_17 : decode cX12_hub 17 = .ok (.istore_n 3, 1) := by decide +kernel
theorem dX12_hub_18 : decode cX12_hub 18 = .ok (.iload_n 3, 1) := by decide +kernel
theorem dX12_hub_19 : decode cX12_hub 19 = .ok (.aload_n 0, 1) := by decide +kernel
theorem dX12_hub_20 : decode cX12_hub 20 = .ok (.getfield 281, 3) := by decide +kernel
theorem dX12_hub_23 : decode cX12_hub 23 = .ok (.if_icmp .ge 80, 3) := by decide +kernel
theorem dX12_hub_26 : decode cX12_hub 26 = .ok (.iconst 0, 1) := by decide +kernel
theorem dX12_hub_27 : decode cX12_hub 27 = .ok (.istore 4, 2) := by decide +kernel
theorem dX12_hub_29 : decode cX12_hub 29 = .ok (.iconst 0, 1) := by decide +kernel
theorem dX12_hub_30 : decode cX12_hub 30 = .ok (.istore 5, 2) := by decide +kernel
theorem dX12_hub_32 : decode cX12_hub 32 = .ok (.iload 5, 2) := by decide +kernel
theorem dX12_hub_34 : decode cX12_hub 34 = .ok (.aload_n 0, 1) := by decide +kernel
theorem dX12_hub_35 : decode cX12_hub 35 = .ok (.getfield 281, 3) := by decide +kernel
theorem dX12_hub_38 : decode cX12_hub 38 = .ok (.if_icmp .ge 45, 3) := by decide +kernel
theorem dX12_hub_41 : decode cX12_hub 41 = .ok (.aload_n 0, 1) := by decide +kernel
theorem dX12_hub_42 : decode cX12_hub 42 = .ok (.getfield 87, 3) := by decide +kernel
theorem dX12_hub_45 : decode cX12_hub 45 = .ok (.bipush 8, 2) := by decide +kernel
theorem dX12_hub_47 : decode cX12_hub 47 = .ok (.iload_n 3, 1) := by decide +kernel
theorem dX12_hub_48 : decode cX12_hub 48 = .ok (.imul, 1) := by decide +kernel
theorem dX12_hub_49 : decode cX12_hub 49 = .ok (.iload 5, 2) := by decide +kernel
theorem dX12_hub_51 : decode cX12_hub 51 = .ok (.iadd, 1) := by decide +kernel
theorem dX12_hub_52 : decode cX12_hub 52 = .ok (.iaload, 1) := by decide +kernel
theorem dX12_hub_53 : decode cX12_hub 53 = .ok (.iload 4, 2) := by decide +kernel
theorem dX12_hub_55 : decode cX12_hub 55 = .ok (.if_icmp .le 18, 3) := by decide +kernel
theorem dX12_hub_58 : decode cX12_hub 58 = .ok (.aload_n 0, 1) := by decide +kernel
theorem dX12_hub_59 : decode cX12_hub 59 = .ok (.getfield 87, 3) := by decide +kernel
theorem dX12_hub_62 : decode cX12_hub 62 = .ok (.bipush 8, 2) := by decide +kernel
theorem dX12_hub_64 : decode cX12_hub 64 = .ok (.iload_n 3, 1) := by decide +kernel
theorem dX12_hub_65 : decode cX12_hub 65 = .ok (.imul, 1) := by decide +kernel
theorem dX12_hub_66 : decode cX12_hub 66 = .ok (.iload 5, 2) := by decide +kernel
theorem dX12_hub_68 : decode cX12_hub 68 = .ok (.iadd, 1) := by decide +kernel
theorem dX12_hub_69 : decode cX12_hub 69 = .ok (.iaload, 1) := by decide +kernel
theorem dX12_hub_70 : decode cX12_hub 70 = .ok (.goto 5, 3) := by decide +kernel
theorem dX12_hub_73 : decode cX12_hub 73 = .ok (.iload 4, 2) := by decide +kernel
theorem dX12_hub_75 : decode cX12_hub 75 = .ok (.istore 4, 2) := by decide +kernel
theorem dX12_hub_77 : decode cX12_hub 77 = .ok (.iinc 5 1, 3) := by decide +kernel
theorem dX12_hub_80 : decode cX12_hub 80 = .ok (.goto (-48), 3) := by decide +kernel
theorem dX12_hub_83 : decode cX12_hub 83 = .ok (.iload 4, 2) := by decide +kernel
theorem dX12_hub_85 : decode cX12_hub 85 = .ok (.iload_n 2, 1) := by decide +kernel
theorem dX12_hub_86 : decode cX12_hub 86 = .ok (.if_icmp .lt 6, 3) := by decide +kernel
theorem dX12_hub_89 : decode cX12_hub 89 = .ok (.goto 8, 3) := by decide +kernel
theorem dX12_hub_92 : decode cX12_hub 92 = .ok (.iload_n 3, 1) := by decide +kernel
theorem dX12_hub_93 : decode cX12_hub 93 = .ok (.istore_n 1, 1) := by decide +kernel
theorem dX12_hub_94 : decode cX12_hub 94 = .ok (.iload 4, 2) := by decide +kernel
theorem dX12_hub_96 : decode cX12_hub 96 = .ok (.istore_n 2, 1) := by decide +kernel
theorem dX12_hub_97 : decode cX12_hub 97 = .ok (.iinc 3 1, 3) := by decide +kernel
theorem dX12_hub_100 : decode cX12_hub 100 = .ok (.goto (-82), 3) := by decide +kernel
theorem dX12_hub_103 : decode cX12_hub 103 = .ok (.iload_n 1, 1) := by decide +kernel
theorem dX12_hub_104 : decode cX12_hub 104 = .ok (.ireturn, 1) := by decide +kernel
theorem dX12_bridge_0 : decode cX12_bridge 0 = .ok (.aload_n 0, 1) := by decide +kernel
theorem dX12_bridge_1 : decode cX12_bridge 1 = .ok (.iconst 0, 1) := by decide +kernel
theorem dX12_bridge_2 : decode cX12_bridge 2 = .ok (.putfield 117, 3) := by decide +kernel
theorem dX12_bridge_5 : decode cX12_bridge 5 = .ok (.aload_n 0, 1) := by decide +kernel
theorem dX12_bridge_6 : decode cX12_bridge 6 = .ok (.iload_n 1, 1) := by decide +kernel
theorem dX12_bridge_7 : decode cX12_bridge 7 = .ok (.invokevirtual 377, 3) := by decide +kernel
theorem dX12_bridge_10 : decode cX12_bridge 10 = .ok (.ifCond .ne 5, 3) := by decide +kernel
theorem dX12_bridge_13 : decode cX12_bridge 13 = .ok (.iconst 0, 1) := by decide +kernel
theorem dX12_bridge_14 : decode cX12_bridge 14 = .ok (.ireturn, 1) := by decide +kernel
theorem dX12_bridge_15 : decode cX12_bridge 15 = .ok (.aload_n 0, 1) := by decide +kernel
theorem dX12_bridge_16 : decode cX12_bridge 16 = .ok (.iload_n 1, 1) := by decide +kernel
theorem dX12_bridge_17 : decode cX12_bridge 17 = .ok (.invokevirtual 396, 3) := by decide +kernel
theorem dX12_bridge_20 : decode cX12_bridge 20 = .ok (.aload_n 0, 1) := by decide +kernel
theorem dX12_bridge_21 : decode cX12_bridge 21 = .ok (.getfield 87, 3) := by decide +kernel
theorem dX12_bridge_24 : decode cX12_bridge 24 = .ok (.bipush 8, 2) := by decide +kernel
theorem dX12_bridge_26 : decode cX12_bridge 26 = .ok (.aload_n 0, 1) := by decide +kernel
theorem dX12_bridge_27 : decode cX12_bridge 27 = .ok (.getfield 20, 3) := by decide +kernel
theorem dX12_bridge_30 : decode cX12_bridge 30 = .ok (.iload_n 1, 1) := by decide +kernel
theorem dX12_bridge_31 : decode cX12_bridge 31 = .ok (.iaload, 1) := by decide +kernel
theorem dX12_bridge_32 : decode cX12_bridge 32 = .ok (.imul, 1) := by decide +kernel
theorem dX12_bridge_33 : decode cX12_bridge 33 = .ok (.aload_n 0, 1) := by decide +kernel
theorem dX12_bridge_34 : decode cX12_bridge 34 = .ok (.getfield 23, 3) := by decide +kernel
theorem dX12_bridge_37 : decode cX12_bridge 37 = .ok (.iload_n 1, 1) := by decide +kernel
theorem dX12_bridge_38 : decode cX12_bridge 38 = .ok (.iaload, 1) := by decide +kernel
theorem dX12_bridge_39 : decode cX12_bridge 39 = .ok (.iadd, 1) := by decide +kernel
theorem dX12_bridge_40 : decode cX12_bridge 40 = .ok (.iaload, 1) := by decide +kernel
theorem dX12_bridge_41 : decode cX12_bridge 41 = .ok (.ldc_w 395, 3) := by decide +kernel
theorem dX12_bridge_44 : decode cX12_bridge 44 = .ok (.if_icmp .lt 7, 3) := by decide +kernel
theorem dX12_bridge_47 : decode cX12_bridge 47 = .ok (.iconst 1, 1) := by decide +kernel
theorem dX12_bridge_48 : decode cX12_bridge 48 = .ok (.goto 4, 3) := by decide +kernel
theorem dX12_bridge_51 : decode cX12_bridge 51 = .ok (.iconst 0, 1) := by decide +kernel
theorem dX12_bridge_52 : decode cX12_bridge 52 = .ok (.ireturn, 1) := by decide +kernel
theorem dX12_spoilt_0 : decode cX12_spoilt 0 = .ok (.aload_n 0, 1) := by decide +kernel
theorem dX12_spoilt_1 : decode cX12_spoilt 1 = .ok (.iconst 0, 1) := by decide +kernel
theorem dX12_spoilt_2 : decode cX12_spoilt 2 = .ok (.putfield 117, 3) := by decide +kernel
theorem dX12_spoilt_5 : decode cX12_spoilt 5 = .ok (.iconst 0, 1) := by decide +kernel
theorem dX12_spoilt_6 : decode cX12_spoilt 6 = .ok (.istore_n 1, 1) := by decide +kernel
theorem dX12_spoilt_7 : decode cX12_spoilt 7 = .ok (.iconst 0, 1) := by decide +kernel
theorem dX12_spoilt_8 : decode cX12_spoilt 8 = .ok (.istore_n 2, 1) := by decide +kernel
theorem dX12_spoilt_9 : decode cX12_spoilt 9 = .ok (.iload_n 2, 1) := by decide +kernel
theorem dX12_spoilt_10 : decode cX12_spoilt 10 = .ok (.aload_n 0, 1) := by decide +kernel
theorem dX12_spoilt_11 : decode cX12_spoilt 11 = .ok (.getfield 287, 3) := by decide +kernel
theorem dX12_spoilt_14 : decode cX12_spoilt 14 = .ok (.if_icmp .ge 85, 3) := by decide +kernel
theorem dX12_spoilt_17 : decode cX12_spoilt 17 = .ok (.aload_n 0, 1) := by decide +kernel
theorem dX12_spoilt_18 : decode cX12_spoilt 18 = .ok (.getfield 75, 3) := by decide +kernel
theorem dX12_spoilt_21 : decode cX12_spoilt 21 = .ok (.bipush 65, 2) := by decide +kernel
theorem dX12_spoilt_23 : decode cX12_spoilt 23 = .ok (.iload_n 2, 1) := by decide +kernel
theorem dX12_spoilt_24 : decode cX12_spoilt 24 = .ok (.iadd, 1) := by decide +kernel
theorem dX12_spoilt_25 : decode cX12_spoilt 25 = .ok (.iaload, 1) := by decide +kernel
theorem dX12_spoilt_26 : decode cX12_spoilt 26 = .ok (.ifCond .ne 6, 3) := by decide +kernel
theorem dX12_spoilt_29 : decode cX12_spoilt 29 = .ok (.goto 64, 3) := by decide +kernel
theorem dX12_spoilt_32 : decode cX12_spoilt 32 = .ok (.aload_n 0, 1) := by decide +kernel
theorem dX12_spoilt_33 : decode cX12_spoilt 33 = .ok (.getfield 75, 3) := by decide +kernel
theorem dX12_spoilt_36 : decode cX12_spoilt 36 = .ok (.bipush 25, 2) := by decide +kernel
theorem dX12_spoilt_38 : decode cX12_spoilt 38 = .ok (.iload_n 2, 1) := by decide +kernel
theorem dX12_spoilt_39 : decode cX12_spoilt 39 = .ok (.iadd, 1) := by decide +kernel
theorem dX12_spoilt_40 : decode cX12_spoilt 40 = .ok (.iaload, 1) := by decide +kernel
theorem dX12_spoilt_41 : decode cX12_spoilt 41 = .ok (.aload_n 0, 1) := by decide +kernel
theorem dX12_spoilt_42 : decode cX12_spoilt 42 = .ok (.getfield 75, 3) := by decide +kernel
theorem dX12_spoilt_45 : decode cX12_spoilt 45 = .ok (.bipush 45, 2) := by decide +kernel
theorem dX12_spoilt_47 : decode cX12_spoilt 47 = .ok (.iload_n 2, 1) := by decide +kernel
theorem dX12_spoilt_48 : decode cX12_spoilt 48 = .ok (.iadd, 1) := by decide +kernel
theorem dX12_spoilt_49 : decode cX12_spoilt 49 = .ok (.iaload, 1) := by decide +kernel
theorem dX12_spoilt_50 : decode cX12_spoilt 50 = .ok (.iconst 1, 1) := by decide +kernel
theorem dX12_spoilt_51 : decode cX12_spoilt 51 = .ok (.if_icmp .ne 7, 3) := by decide +kernel
theorem dX12_spoilt_54 : decode cX12_spoilt 54 = .ok (.iconst 0, 1) := by decide +kernel
theorem dX12_spoilt_55 : decode cX12_spoilt 55 = .ok (.goto 22, 3) := by decide +kernel
theorem dX12_spoilt_58 : decode cX12_spoilt 58 = .ok (.aload_n 0, 1) := by decide +kernel
theorem dX12_spoilt_59 : decode cX12_spoilt 59 = .ok (.getfield 75, 3) := by decide +kernel
theorem dX12_spoilt_62 : decode cX12_spoilt 62 = .ok (.bipush 75, 2) := by decide +kernel
theorem dX12_spoilt_64 : decode cX12_spoilt 64 = .ok (.iload_n 2, 1) := by decide +kernel
theorem dX12_spoilt_65 : decode cX12_spoilt 65 = .ok (.iadd, 1) := by decide +kernel
theorem dX12_spoilt_66 : decode cX12_spoilt 66 = .ok (.iaload, 1) := by decide +kernel
theorem dX12_spoilt_67 : decode cX12_spoilt 67 = .ok (.aload_n 0, 1) := by decide +kernel
theorem dX12_spoilt_68 : decode cX12_spoilt 68 = .ok (.getfield 75, 3) := by decide +kernel
theorem dX12_spoilt_71 : decode cX12_spoilt 71 = .ok (.bipush 65, 2) := by decide +kernel
theorem dX12_spoilt_73 : decode cX12_spoilt 73 = .ok (.iload_n 2, 1) := by decide +kernel
theorem dX12_spoilt_74 : decode cX12_spoilt 74 = .ok (.iadd, 1) := by decide +kernel
theorem dX12_spoilt_75 : decode cX12_spoilt 75 = .ok (.iaload, 1) := by decide +kernel
theorem dX12_spoilt_76 : decode cX12_spoilt 76 = .ok (.imul, 1) := by decide +kernel
theorem dX12_spoilt_77 : decode cX12_spoilt 77 = .ok (.isub, 1) := by decide +kernel
theorem dX12_spoilt_78 : decode cX12_spoilt 78 = .ok (.istore_n 3, 1) := by decide +kernel
theorem dX12_spoilt_79 : decode cX12_spoilt 79 = .ok (.iload_n 1, 1) := by decide +kernel
theorem dX12_spoilt_80 : decode cX12_spoilt 80 = .ok (.iload_n 3, 1) := by decide +kernel
theorem dX12_spoilt_81 : decode cX12_spoilt 81 = .ok (.ifCond .gt 9, 3) := by decide +kernel
theorem dX12_spoilt_84 : decode cX12_spoilt 84 = .ok (.iconst 1, 1) := by decide +kernel
theorem dX12_spoilt_85 : decode cX12_spoilt 85 = .ok (.iload_n 2, 1) := by decide +kernel
theorem dX12_spoilt_86 : decode cX12_spoilt 86 = .ok (.ishl, 1) := by decide +kernel
theorem dX12_spoilt_87 : decode cX12_spoilt 87 = .ok (.goto 4, 3) := by decide +kernel
theorem dX12_spoilt_90 : decode cX12_spoilt 90 = .ok (.iconst 0, 1) := by decide +kernel
theorem dX12_spoilt_91 : decode cX12_spoilt 91 = .ok (.ior, 1) := by decide +kernel
theorem dX12_spoilt_92 : decode cX12_spoilt 92 = .ok (.istore_n 1, 1) := by decide +kernel
theorem dX12_spoilt_93 : decode cX12_spoilt 93 = .ok (.iinc 2 1, 3) := by decide +kernel
theorem dX12_spoilt_96 : decode cX12_spoilt 96 = .ok (.goto (-87), 3) := by decide +kernel
theorem dX12_spoilt_99 : decode cX12_spoilt 99 = .ok (.iload_n 1, 1) := by decide +kernel
theorem dX12_spoilt_100 : decode cX12_spoilt 100 = .ok (.ireturn, 1) := by decide +kernel
theorem dX12_harms_0 : decode cX12_harms 0 = .ok (.aload_n 0, 1) := by decide +kernel
theorem dX12_harms_1 : decode cX12_harms 1 = .ok (.getfield 75, 3) := by decide +kernel
theorem dX12_harms_4 : decode cX12_harms 4 = .ok (.bipush 35, 2) := by decide +kernel
theorem dX12_harms_6 : decode cX12_harms 6 = .ok (.iload_n 1, 1) := by decide +kernel
theorem dX12_harms_7 : decode cX12_harms 7 = .ok (.iadd, 1) := by decide +kernel
theorem dX12_harms_8 : decode cX12_harms 8 = .ok (.iaload, 1) := by decide +kernel
theorem dX12_harms_9 : decode cX12_harms 9 = .ok (.aload_n 0, 1) := by decide +kernel
theorem dX12_harms_10 : decode cX12_harms 10 = .ok (.getfield 75, 3) := by decide +kernel
theorem dX12_harms_13 : decode cX12_harms 13 = .ok (.bipush 35, 2) := by decide +kernel
theorem dX12_harms_15 : decode cX12_harms 15 = .ok (.iload_n 2, 1) := by decide +kernel
theorem dX12_harms_16 : decode cX12_harms 16 = .ok (.iadd, 1) := by decide +kernel
theorem dX12_harms_17 : decode cX12_harms 17 = .ok (.iaload, 1) := by decide +kernel
theorem dX12_harms_18 : decode cX12_harms 18 = .ok (.if_icmp .ne 5, 3) := by decide +kernel
theorem dX12_harms_21 : decode cX12_harms 21 = .ok (.iconst 0, 1) := by decide +kernel
theorem dX12_harms_22 : decode cX12_harms 22 = .ok (.ireturn, 1) := by decide +kernel
theorem dX12_harms_23 : decode cX12_harms 23 = .ok (.aload_n 0, 1) := by decide +kernel
theorem dX12_harms_24 : decode cX12_harms 24 = .ok (.getfield 75, 3) := by decide +kernel
theorem dX12_harms_27 : decode cX12_harms 27 = .ok (.bipush 25, 2) := by decide +kernel
theorem dX12_harms_29 : decode cX12_harms 29 = .ok (.iload_n 1, 1) := by decide +kernel
theorem dX12_harms_30 : decode cX12_harms 30 = .ok (.iadd, 1) := by decide +kernel
theorem dX12_harms_31 : decode cX12_harms 31 = .ok (.iaload, 1) := by decide +kernel
theorem dX12_harms_32 : decode cX12_harms 32 = .ok (.aload_n 0, 1) := by decide +kernel
theorem dX12_harms_33 : decode cX12_harms 33 = .ok (.getfield 75, 3) := by decide +kernel
theorem dX12_harms_36 : decode cX12_harms 36 = .ok (.bipush 25, 2) := by decide +kernel
theorem dX12_harms_38 : decode cX12_harms 38 = .ok (.iload_n 2, 1) := by decide +kernel
theorem dX12_harms_39 : decode cX12_harms 39 = .ok (.iadd, 1) := by decide +kernel
theorem dX12_harms_40 : decode cX12_harms 40 = .ok (.iaload, 1) := by decide +kernel
theorem dX12_harms_41 : decode cX12_harms 41 = .ok (.invokestatic 323, 3) := by decide +kernel
theorem dX12_harms_44 : decode cX12_harms 44 = .ok (.ireturn, 1) := by decide +kernel
theorem dX12_laysHold_0 : decode cX12_laysHold 0 = .ok (.iload_n 1, 1) := by decide +kernel
theorem dX12_laysHold_1 : decode cX12_laysHold 1 = .ok (.istore_n 2, 1) := by decide +kernel
theorem dX12_laysHold_2 : decode cX12_laysHold 2 = .ok (.iload_n 2, 1) := by decide +kernel
theorem dX12_laysHold_3 : decode cX12_laysHold 3 = .ok (.ifCond .le 135, 3) := by decide +kernel
theorem dX12_laysHold_6 : decode cX12_laysHold 6 = .ok (.iload_n 2, 1) := by decide +kernel
theorem dX12_laysHold_7 : decode cX12_laysHold 7 = .ok (.iload_n 1, 1) := by decide +kernel
theorem dX12_laysHold_8 : decode cX12_laysHold 8 = .ok (.iconst (-1), 1) := by decide +kernel
theorem dX12_laysHold_9 : decode cX12_laysHold 9 = .ok (.ixor, 1) := by decide +kernel
theorem dX12_laysHold_10 : decode cX12_laysHold 10 = .ok (.iand, 1) := by decide +kernel
theorem dX12_laysHold_11 : decode cX12_laysHold 11 = .ok (.ifCond .eq 6, 3) := by decide +kernel
theorem dX12_laysHold_14 : decode cX12_laysHold 14 = .ok (.goto 118, 3) := by decide +kernel
theorem dX12_laysHold_17 : decode cX12_laysHold 17 = .ok (.iconst 0, 1) := by decide +kernel
theorem dX12_laysHold_18 : decode cX12_laysHold 18 = .ok (.istore_n 3, 1) := by decide +kernel
theorem dX12_laysHold_19 : decode cX12_laysHold 19 = .ok (.iload_n 3, 1) := by decide +kernel
theorem dX12_laysHold_20 : decode cX12_laysHold 20 = .ok (.aload_n 0, 1) := by decide +kernel
theorem dX12_laysHold_21 : decode cX12_laysHold 21 = .ok (.getfield 287, 3) := by decide +kernel
theorem dX12_laysHold_24 : decode cX12_laysHold 24 = .ok (.if_icmp .ge 108, 3) := by decide +kernel
theorem dX12_laysHold_27 : decode cX12_laysHold 27 = .ok (.iload_n 2, 1) := by decide +kernel
theorem dX12_laysHold_28 : decode cX12_laysHold 28 = .ok (.iload_n 1, 1) := by decide +kernel
theorem dX12_laysHold_29 : decode cX12_laysHold 29 = .ok (.if_icmp .ne 7, 3) := by decide +kernel
theorem dX12_laysHold_32 : decode cX12_laysHold 32 = .ok (.iconst 0, 1) := by decide +kernel
theorem dX12_laysHold_33 : decode cX12_laysHold 33 = .ok (.goto 6, 3) := by decide +kernel
theorem dX12_laysHold_36 : decode cX12_laysHold 36 = .ok (.ldc_w 395, 3) := by decide +kernel
theorem dX12_laysHold_39 : decode cX12_laysHold 39 = .ok (.istore 4, 2) := by decide +kernel
theorem dX12_laysHold_41 : decode cX12_laysHold 41 = .ok (.iconst 0, 1) := by decide +kernel
theorem dX12_laysHold_42 : decode cX12_laysHold 42 = .ok (.istore 5, 2) := by decide +kernel
theorem dX12_laysHold_44 : decode cX12_laysHold 44 = .ok (.iload 5, 2) := by decide +kernel
theorem dX12_laysHold_46 : decode cX12_laysHold 46 = .ok (.aload_n 0, 1) := by decide +kernel
theorem dX12_laysHold_47 : decode cX12_laysHold 47 = .ok (.getfield 287, 3) := by decide +kernel
theorem dX12_laysHold_50 : decode cX12_laysHold 50 = .ok (.if_icmp .ge 63, 3) := by decide +kernel
theorem dX12_laysHold_53 : decode cX12_laysHold 53 = .ok (.iload_n 1, 1) := by decide +kernel
theorem dX12_laysHold_54 : decode cX12_laysHold 54 = .ok (.iload 5, 2) := by decide +kernel
theorem dX12_laysHold_56 : decode cX12_laysHold 56 = .ok (.ishr, 1) := by decide +kernel
theorem dX12_laysHold_57 : decode cX12_laysHold 57 = .ok (.iconst 1, 1) := by decide +kernel
theorem dX12_laysHold_58 : decode cX12_laysHold 58 = .ok (.iand, 1) := by decide +kernel
theorem dX12_laysHold_59 : decode cX12_laysHold 59 = .ok (.ifCond .eq 48, 3) := by decide +kernel
theorem dX12_laysHold_62 : decode cX12_laysHold 62 = .ok (.iload_n 2, 1) := by decide +kernel
theorem dX12_laysHold_63 : decode cX12_laysHold 63 = .ok (.iload 5, 2) := by decide +kernel
theorem dX12_laysHold_65 : decode cX12_laysHold 65 = .ok (.ishr, 1) := by decide +kernel
theorem dX12_laysHold_66 : decode cX12_laysHold 66 = .ok (.iconst 1, 1) := by decide +kernel
theorem dX12_laysHold_67 : decode cX12_laysHold 67 = .ok (.iand, 1) := by decide +kernel
theorem dX12_laysHold_68 : decode cX12_laysHold 68 = .ok (.iconst 1, 1) := by decide +kernel
theorem dX12_laysHold_69 : decode cX12_laysHold 69 = .ok (.if_icmp .ne 6, 3) := by decide +kernel
theorem dX12_laysHold_72 : decode cX12_laysHold 72 = .ok (.goto 35, 3) := by decide +kernel
theorem dX12_laysHold_75 : decode cX12_laysHold 75 = .ok (.iload 4, 2) := by decide +kernel
theorem dX12_laysHold_77 : decode cX12_laysHold 77 = .ok (.aload_n 0, 1) := by decide +kernel
theorem dX12_laysHold_78 : decode cX12_laysHold 78 = .ok (.iload_n 3, 1) := by decide +kernel
theorem dX12_laysHold_79 : decode cX12_laysHold 79 = .ok (.iload 5, 2) := by decide +kernel
theorem dX12_laysHold_81 : decode cX12_laysHold 81 = .ok (.invokevirtual 408, 3) := by decide +kernel
theorem dX12_laysHold_84 : decode cX12_laysHold 84 = .ok (.aload_n 0, 1) := by decide +kernel
theorem dX12_laysHold_85 : decode cX12_laysHold 85 = .ok (.getfield 93, 3) := by decide +kernel
theorem dX12_laysHold_88 : decode cX12_laysHold 88 = .ok (.bipush 10, 2) := by decide +kernel
theorem dX12_laysHold_90 : decode cX12_laysHold 90 = .ok (.iload_n 2, 1) := by decide +kernel
theorem dX12_laysHold_91 : decode cX12_laysHold 91 = .ok (.iconst 1, 1) := by decide +kernel
theorem dX12_laysHold_92 : decode cX12_laysHold 92 = .ok (.iload 5, 2) := by decide +kernel
theorem dX12_laysHold_94 : decode cX12_laysHold 94 = .ok (.ishl, 1) := by decide +kernel
theorem dX12_laysHold_95 : decode cX12_laysHold 95 = .ok (.ior, 1) := by decide +kernel
theorem dX12_laysHold_96 : decode cX12_laysHold 96 = .ok (.imul, 1) := by decide +kernel
theorem dX12_laysHold_97 : decode cX12_laysHold 97 = .ok (.iload 5, 2) := by decide +kernel
theorem dX12_laysHold_99 : decode cX12_laysHold 99 = .ok (.iadd, 1) := by decide +kernel
theorem dX12_laysHold_100 : decode cX12_laysHold 100 = .ok (.iaload, 1) := by decide +kernel
theorem dX12_laysHold_101 : decode cX12_laysHold 101 = .ok (.iadd, 1) := by decide +kernel
theorem dX12_laysHold_102 : decode cX12_laysHold 102 = .ok (.invokestatic 323, 3) := by decide +kernel
theorem dX12_laysHold_105 : decode cX12_laysHold 105 = .ok (.istore 4, 2) := by decide +kernel
theorem dX12_laysHold_107 : decode cX12_laysHold 107 = .ok (.iinc 5 1, 3) := by decide +kernel
theorem dX12_laysHold_110 : decode cX12_laysHold 110 = .ok (.goto (-66), 3) := by decide +kernel
theorem dX12_laysHold_113 : decode cX12_laysHold 113 = .ok (.aload_n 0, 1) := by decide +kernel
theorem dX12_laysHold_114 : decode cX12_laysHold 114 = .ok (.getfield 93, 3) := by decide +kernel
theorem dX12_laysHold_117 : decode cX12_laysHold 117 = .ok (.bipush 10, 2) := by decide +kernel
theorem dX12_laysHold_119 : decode cX12_laysHold 119 = .ok (.iload_n 2, 1) := by decide +kernel
theorem dX12_laysHold_120 : decode cX12_laysHold 120 = .ok (.imul, 1) := by decide +kernel
theorem dX12_laysHold_121 : decode cX12_laysHold 121 = .ok (.iload_n 3, 1) := by decide +kernel
theorem dX12_laysHold_122 : decode cX12_laysHold 122 = .ok (.iadd, 1) := by decide +kernel
theorem dX12_laysHold_123 : decode cX12_laysHold 123 = .ok (.iload 4, 2) := by decide +kernel
theorem dX12_laysHold_125 : decode cX12_laysHold 125 = .ok (.iastore, 1) := by decide +kernel
theorem dX12_laysHold_126 : decode cX12_laysHold 126 = .ok (.iinc 3 1, 3) := by decide +kernel
theorem dX12_laysHold_129 : decode cX12_laysHold 129 = .ok (.goto (-110), 3) := by decide +kernel
theorem dX12_laysHold_132 : decode cX12_laysHold 132 = .ok (.iinc 2 (-1), 3) := by decide +kernel
theorem dX12_laysHold_135 : decode cX12_laysHold 135 = .ok (.goto (-133), 3) := by decide +kernel
theorem dX12_laysHold_138 : decode cX12_laysHold 138 = .ok (.return_, 1) := by decide +kernel
theorem dX12_hold_0 : decode cX12_hold 0 = .ok (.aload_n 0, 1) := by decide +kernel
theorem dX12_hold_1 : decode cX12_hold 1 = .ok (.iconst 0, 1) := by decide +kernel
theorem dX12_hold_2 : decode cX12_hold 2 = .ok (.putfield 117, 3) := by decide +kernel
theorem dX12_hold_5 : decode cX12_hold 5 = .ok (.aload_n 0, 1) := by decide +kernel
theorem dX12_hold_6 : decode cX12_hold 6 = .ok (.iload_n 1, 1) := by decide +kernel
theorem dX12_hold_7 : decode cX12_hold 7 = .ok (.invokevirtual 362, 3) := by decide +kernel
theorem dX12_hold_10 : decode cX12_hold 10 = .ok (.ifCond .ne 5, 3) := by decide +kernel
theorem dX12_hold_13 : decode cX12_hold 13 = .ok (.iconst 0, 1) := by decide +kernel
theorem dX12_hold_14 : decode cX12_hold 14 = .ok (.ireturn, 1) := by decide +kernel
theorem dX12_hold_15 : decode cX12_hold 15 = .ok (.aload_n 0, 1) := by decide +kernel
theorem dX12_hold_16 : decode cX12_hold 16 = .ok (.iconst 0, 1) := by decide +kernel
theorem dX12_hold_17 : decode cX12_hold 17 = .ok (.iload_n 1, 1) := by decide +kernel
theorem dX12_hold_18 : decode cX12_hold 18 = .ok (.invokevirtual 314, 3) := by decide +kernel
theorem dX12_hold_21 : decode cX12_hold 21 = .ok (.istore_n 3, 1) := by decide +kernel
theorem dX12_hold_22 : decode cX12_hold 22 = .ok (.aload_n 0, 1) := by decide +kernel
theorem dX12_hold_23 : decode cX12_hold 23 = .ok (.iload_n 2, 1) := by decide +kernel
theorem dX12_hold_24 : decode cX12_hold 24 = .ok (.iconst (-1), 1) := by decide +kernel
theorem dX12_hold_25 : decode cX12_hold 25 = .ok (.if_icmp .lt 15, 3) := by decide +kernel
theorem dX12_hold_28 : decode cX12_hold 28 = .ok (.iload_n 2, 1) := by decide +kernel
theorem dX12_hold_29 : decode cX12_hold 29 = .ok (.iload_n 3, 1) := by decide +kernel
theorem dX12_hold_30 : decode cX12_hold 30 = .ok (.invokestatic 317, 3) := by decide +kernel
theorem dX12_hold_33 : decode cX12_hold 33 = .ok (.if_icmp .ge 7, 3) := by decide +kernel
theorem dX12_hold_36 : decode cX12_hold 36 = .ok (.iconst 1, 1) := by decide +kernel
theorem dX12_hold_37 : decode cX12_hold 37 = .ok (.goto 4, 3) := by decide +kernel
theorem dX12_hold_40 : decode cX12_hold 40 = .ok (.iconst 0, 1) := by decide +kernel
theorem dX12_hold_41 : decode cX12_hold 41 = .ok (.iconst 1, 1) := by decide +kernel
theorem dX12_hold_42 : decode cX12_hold 42 = .ok (.invokevirtual 274, 3) := by decide +kernel
theorem dX12_hold_45 : decode cX12_hold 45 = .ok (.ifCond .ne 5, 3) := by decide +kernel
theorem dX12_hold_48 : decode cX12_hold 48 = .ok (.iconst 0, 1) := by decide +kernel
theorem dX12_hold_49 : decode cX12_hold 49 = .ok (.ireturn, 1) := by decide +kernel
theorem dX12_hold_50 : decode cX12_hold 50 = .ok (.aload_n 0, 1) := by decide +kernel
theorem dX12_hold_51 : decode cX12_hold 51 = .ok (.iload_n 3, 1) := by decide +kernel
theorem dX12_hold_52 : decode cX12_hold 52 = .ok (.invokevirtual 411, 3) := by decide +kernel
theorem dX12_hold_55 : decode cX12_hold 55 = .ok (.ldc_w 395, 3) := by decide +kernel
theorem dX12_hold_58 : decode cX12_hold 58 = .ok (.istore 4, 2) := by decide +kernel
theorem dX12_hold_60 : decode cX12_hold 60 = .ok (.iconst 0, 1) := by decide +kernel
theorem dX12_hold_61 : decode cX12_hold 61 = .ok (.istore 5, 2) := by decide +kernel
theorem dX12_hold_63 : decode cX12_hold 63 = .ok (.iload 5, 2) := by decide +kernel
theorem dX12_hold_65 : decode cX12_hold 65 = .ok (.aload_n 0, 1) := by decide +kernel
theorem dX12_hold_66 : decode cX12_hold 66 = .ok (.getfield 287, 3) := by decide +kernel
theorem dX12_hold_69 : decode cX12_hold 69 = .ok (.if_icmp .ge 41, 3) := by decide +kernel
theorem dX12_hold_72 : decode cX12_hold 72 = .ok (.iload_n 3, 1) := by decide +kernel
theorem dX12_hold_73 : decode cX12_hold 73 = .ok (.iload 5, 2) := by decide +kernel
theorem dX12_hold_75 : decode cX12_hold 75 = .ok (.ishr, 1) := by decide +kernel
theorem dX12_hold_76 : decode cX12_hold 76 = .ok (.iconst 1, 1) := by decide +kernel
theorem dX12_hold_77 : decode cX12_hold 77 = .ok (.iand, 1) := by decide +kernel
theorem dX12_hold_78 : decode cX12_hold 78 = .ok (.iconst 1, 1) := by decide +kernel
theorem dX12_hold_79 : decode cX12_hold 79 = .ok (.if_icmp .ne 25, 3) := by decide +kernel
theorem dX12_hold_82 : decode cX12_hold 82 = .ok (.iload 4, 2) := by decide +kernel
theorem dX12_hold_84 : decode cX12_hold 84 = .ok (.aload_n 0, 1) := by decide +kernel
theorem dX12_hold_85 : decode cX12_hold 85 = .ok (.getfield 93, 3) := by decide +kernel
theorem dX12_hold_88 : decode cX12_hold 88 = .ok (.bipush 10, 2) := by decide +kernel
theorem dX12_hold_90 : decode cX12_hold 90 = .ok (.iconst 1, 1) := by decide +kernel
theorem dX12_hold_91 : decode cX12_hold 91 = .ok (.iload 5, 2) := by decide +kernel
theorem dX12_hold_93 : decode cX12_hold 93 = .ok (.ishl, 1) := by decide +kernel
theorem dX12_hold_94 : decode cX12_hold 94 = .ok (.imul, 1) := by decide +kernel
theorem dX12_hold_95 : decode cX12_hold 95 = .ok (.iload 5, 2) := by decide +kernel
theorem dX12_hold_97 : decode cX12_hold 97 = .ok (.iadd, 1) := by decide +kernel
theorem dX12_hold_98 : decode cX12_hold 98 = .ok (.iaload, 1) := by decide +kernel
theorem dX12_hold_99 : decode cX12_hold 99 = .ok (.invokestatic 323, 3) := by decide +kernel
theorem dX12_hold_102 : decode cX12_hold 102 = .ok (.istore 4, 2) := by decide +kernel
theorem dX12_hold_104 : decode cX12_hold 104 = .ok (.iinc 5 1, 3) := by decide +kernel
theorem dX12_hold_107 : decode cX12_hold 107 = .ok (.goto (-44), 3) := by decide +kernel
theorem dX12_hold_110 : decode cX12_hold 110 = .ok (.iload_n 2, 1) := by decide +kernel
theorem dX12_hold_111 : decode cX12_hold 111 = .ok (.iconst (-1), 1) := by decide +kernel
theorem dX12_hold_112 : decode cX12_hold 112 = .ok (.if_icmp .ne 14, 3) := by decide +kernel
theorem dX12_hold_115 : decode cX12_hold 115 = .ok (.iload_n 3, 1) := by decide +kernel
theorem dX12_hold_116 : decode cX12_hold 116 = .ok (.ifCond .ne 7, 3) := by decide +kernel
theorem dX12_hold_119 : decode cX12_hold 119 = .ok (.iconst 0, 1) := by decide +kernel
theorem dX12_hold_120 : decode cX12_hold 120 = .ok (.goto 5, 3) := by decide +kernel
theorem dX12_hold_123 : decode cX12_hold 123 = .ok (.iload 4, 2) := by decide +kernel
theorem dX12_hold_125 : decode cX12_hold 125 = .ok (.ireturn, 1) := by decide +kernel
theorem dX12_hold_126 : decode cX12_hold 126 = .ok (.iconst 0, 1) := by decide +kernel
theorem dX12_hold_127 : decode cX12_hold 127 = .ok (.istore 5, 2) := by decide +kernel
theorem dX12_hold_129 : decode cX12_hold 129 = .ok (.iconst (-1), 1) := by decide +kernel
theorem dX12_hold_130 : decode cX12_hold 130 = .ok (.istore 6, 2) := by decide +kernel
theorem dX12_hold_132 : decode cX12_hold 132 = .ok (.iload 4, 2) := by decide +kernel
theorem dX12_hold_134 : decode cX12_hold 134 = .ok (.istore 7, 2) := by decide +kernel
theorem dX12_hold_136 : decode cX12_hold 136 = .ok (.iconst 0, 1) := by decide +kernel
theorem dX12_hold_137 : decode cX12_hold 137 = .ok (.istore 8, 2) := by decide +kernel
theorem dX12_hold_139 : decode cX12_hold 139 = .ok (.iload 8, 2) := by decide +kernel
theorem dX12_hold_141 : decode cX12_hold 141 = .ok (.iload_n 2, 1) := by decide +kernel
theorem dX12_hold_142 : decode cX12_hold 142 = .ok (.if_icmp .gt 145, 3) := by decide +kernel
theorem dX12_hold_145 : decode cX12_hold 145 = .ok (.iconst (-1), 1) := by decide +kernel
theorem dX12_hold_146 : decode cX12_hold 146 = .ok (.istore 9, 2) := by decide +kernel
theorem dX12_hold_148 : decode cX12_hold 148 = .ok (.aload_n 0, 1) := by decide +kernel
theorem dX12_hold_149 : decode cX12_hold 149 = .ok (.getfield 287, 3) := by decide +kernel
theorem dX12_hold_152 : decode cX12_hold 152 = .ok (.iconst 1, 1) := by decide +kernel
theorem dX12_hold_153 : decode cX12_hold 153 = .ok (.isub, 1) := by decide +kernel
theorem dX12_hold_154 : decode cX12_hold 154 = .ok (.istore 10, 2) := by decide +kernel
theorem dX12_hold_156 : decode cX12_hold 156 = .ok (.iload 10, 2) := by decide +kernel
theorem dX12_hold_158 : decode cX12_hold 158 = .ok (.ifCond .lt 87, 3) := by decide +kernel
theorem dX12_hold_161 : decode cX12_hold 161 = .ok (.iload_n 3, 1) := by decide +kernel
theorem dX12_hold_162 : decode cX12_hold 162 = .ok (.iload 10, 2) := by decide +kernel
theorem dX12_hold_164 : decode cX12_hold 164 = .ok (.ishr, 1) := by decide +kernel
theorem dX12_hold_165 : decode cX12_hold 165 = .ok (.iconst 1, 1) := by decide +kernel
theorem dX12_hold_166 : decode cX12_hold 166 = .ok (.iand, 1) := by decide +kernel
theorem dX12_hold_167 : decode cX12_hold 167 = .ok (.ifCond .eq 72, 3) := by decide +kernel
theorem dX12_hold_170 : decode cX12_hold 170 = .ok (.iload 5, 2) := by decide +kernel
theorem dX12_hold_172 : decode cX12_hold 172 = .ok (.iload 10, 2) := by decide +kernel
theorem dX12_hold_174 : decode cX12_hold 174 = .ok (.ishr, 1) := by decide +kernel
theorem dX12_hold_175 : decode cX12_hold 175 = .ok (.iconst 1, 1) := by decide +kernel
theorem dX12_hold_176 : decode cX12_hold 176 = .ok (.iand, 1) := by decide +kernel
theorem dX12_hold_177 : decode cX12_hold 177 = .ok (.iconst 1, 1) := by decide +kernel
theorem dX12_hold_178 : decode cX12_hold 178 = .ok (.if_icmp .ne 6, 3) := by decide +kernel
theorem dX12_hold_181 : decode cX12_hold 181 = .ok (.goto 58, 3) := by decide +kernel
theorem dX12_hold_184 : decode cX12_hold 184 = .ok (.iload 6, 2) := by decide +kernel
theorem dX12_hold_186 : decode cX12_hold 186 = .ok (.iconst (-1), 1) := by decide +kernel
theorem dX12_hold_187 : decode cX12_hold 187 = .ok (.if_icmp .ne 7, 3) := by decide +kernel
theorem dX12_hold_190 : decode cX12_hold 190 = .ok (.iconst 0, 1) := by decide +kernel
theorem dX12_hold_191 : decode cX12_hold 191 = .ok (.goto 11, 3) := by decide +kernel
theorem dX12_hold_194 : decode cX12_hold 194 = .ok (.aload_n 0, 1) := by decide +kernel
theorem dX12_hold_195 : decode cX12_hold 195 = .ok (.iload 6, 2) := by decide +kernel
theorem dX12_hold_197 : decode cX12_hold 197 = .ok (.iload 10, 2) := by decide +kernel
theorem dX12_hold_199 : decode cX12_hold 199 = .ok (.invokevirtual 408, 3) := by decide +kernel
theorem dX12_hold_202 : decode cX12_hold 202 = .ok (.aload_n 0, 1) := by decide +kernel
theorem dX12_hold_203 : decode cX12_hold 203 = .ok (.getfield 93, 3) := by decide +kernel
theorem dX12_hold_206 : decode cX12_hold 206 = .ok (.bipush 10, 2) := by decide +kernel
theorem dX12_hold_208 : decode cX12_hold 208 = .ok (.iload 5, 2) := by decide +kernel
theorem dX12_hold_210 : decode cX12_hold 210 = .ok (.iconst 1, 1) := by decide +kernel
theorem dX12_hold_211 : decode cX12_hold 211 = .ok (.iload 10, 2) := by decide +kernel
theorem dX12_hold_213 : decode cX12_hold 213 = .ok (.ishl, 1) := by decide +kernel
theorem dX12_hold_214 : decode cX12_hold 214 = .ok (.ior, 1) := by decide +kernel
theorem dX12_hold_215 : decode cX12_hold 215 = .ok (.imul, 1) := by decide +kernel
theorem dX12_hold_216 : decode cX12_hold 216 = .ok (.iload 10, 2) := by decide +kernel
theorem dX12_hold_218 : decode cX12_hold 218 = .ok (.iadd, 1) := by decide +kernel
theorem dX12_hold_219 : decode cX12_hold 219 = .ok (.iaload, 1) := by decide +kernel
theorem dX12_hold_220 : decode cX12_hold 220 = .ok (.iadd, 1) := by decide +kernel
theorem dX12_hold_221 : decode cX12_hold 221 = .ok (.istore 11, 2) := by decide +kernel
theorem dX12_hold_223 : decode cX12_hold 223 = .ok (.iload 11, 2) := by decide +kernel
theorem dX12_hold_225 : decode cX12_hold 225 = .ok (.iload 7, 2) := by decide +kernel
theorem dX12_hold_227 : decode cX12_hold 227 = .ok (.if_icmp .ne 8, 3) := by decide +kernel
theorem dX12_hold_230 : decode cX12_hold 230 = .ok (.iload 10, 2) := by decide +kernel
theorem dX12_hold_232 : decode cX12_hold 232 = .ok (.goto 5, 3) := by decide +kernel
theorem dX12_hold_235 : decode cX12_hold 235 = .ok (.iload 9, 2) := by decide +kernel
theorem dX12_hold_237 : decode cX12_hold 237 = .ok (.istore 9, 2) := by decide +kernel
theorem dX12_hold_239 : decode cX12_hold 239 = .ok (.iinc 10 (-1), 3) := by decide +kernel
theorem dX12_hold_242 : decode cX12_hold 242 = .ok (.goto (-86), 3) := by decide +kernel
theorem dX12_hold_245 : decode cX12_hold 245 = .ok (.iload 7, 2) := by decide +kernel
theorem dX12_hold_247 : decode cX12_hold 247 = .ok (.iload 6, 2) := by decide +kernel
theorem dX12_hold_249 : decode cX12_hold 249 = .ok (.iconst (-1), 1) := by decide +kernel
theorem dX12_hold_250 : decode cX12_hold 250 = .ok (.if_icmp .ne 7, 3) := by decide +kernel
theorem dX12_hold_253 : decode cX12_hold 253 = .ok (.iconst 0, 1) := by decide +kernel
theorem dX12_hold_254 : decode cX12_hold 254 = .ok (.goto 11, 3) := by decide +kernel
theorem dX12_hold_257 : decode cX12_hold 257 = .ok (.aload_n 0, 1) := by decide +kernel
