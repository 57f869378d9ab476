theorem dX12_readsWay_146 : decode cX12_readsWay 146 = .ok (.aload_n 0, 1) := by decide +kernel
theorem dX12_readsWay_147 : decode cX12_readsWay 147 = .ok (.dup, 1) := by decide +kernel
theorem dX12_readsWay_148 : decode cX12_readsWay 148 = .ok (.getfield 243, 3) := by decide +kernel
theorem dX12_readsWay_151 : decode cX12_readsWay 151 = .ok (.iconst 1, 1) := by decide +kernel
theorem dX12_readsWay_152 : decode cX12_readsWay 152 = .ok (.iadd, 1) := by decide +kernel
theorem dX12_readsWay_153 : decode cX12_readsWay 153 = .ok (.putfield 243, 3) := by decide +kernel
theorem dX12_readsWay_156 : decode cX12_readsWay 156 = .ok (.return_, 1) := by decide +kernel
theorem dX12_readsCrate_0 : decode cX12_readsCrate 0 = .ok (.aload_n 0, 1) := by decide +kernel
theorem dX12_readsCrate_1 : decode cX12_readsCrate 1 = .ok (.getfield 253, 3) := by decide +kernel
theorem dX12_readsCrate_4 : decode cX12_readsCrate 4 = .ok (.bipush 10, 2) := by decide +kernel
theorem dX12_readsCrate_6 : decode cX12_readsCrate 6 = .ok (.if_icmp .ne 8, 3) := by decide +kernel
theorem dX12_readsCrate_9 : decode cX12_readsCrate 9 = .ok (.aload_n 0, 1) := by decide +kernel
theorem dX12_readsCrate_10 : decode cX12_readsCrate 10 = .ok (.iconst 2, 1) := by decide +kernel
theorem dX12_readsCrate_11 : decode cX12_readsCrate 11 = .ok (.invokevirtual 183, 3) := by decide +kernel
theorem dX12_readsCrate_14 : decode cX12_readsCrate 14 = .ok (.aload_n 0, 1) := by decide +kernel
theorem dX12_readsCrate_15 : decode cX12_readsCrate 15 = .ok (.invokevirtual 176, 3) := by decide +kernel
theorem dX12_readsCrate_18 : decode cX12_readsCrate 18 = .ok (.ifCond .ne 4, 3) := by decide +kernel
theorem dX12_readsCrate_21 : decode cX12_readsCrate 21 = .ok (.return_, 1) := by decide +kernel
theorem dX12_readsCrate_22 : decode cX12_readsCrate 22 = .ok (.aload_n 0, 1) := by decide +kernel
theorem dX12_readsCrate_23 : decode cX12_readsCrate 23 = .ok (.invokevirtual 180, 3) := by decide +kernel
theorem dX12_readsCrate_26 : decode cX12_readsCrate 26 = .ok (.aload_n 0, 1) := by decide +kernel
theorem dX12_readsCrate_27 : decode cX12_readsCrate 27 = .ok (.getfield 253, 3) := by decide +kernel
theorem dX12_readsCrate_30 : decode cX12_readsCrate 30 = .ok (.istore_n 2, 1) := by decide +kernel
theorem dX12_readsCrate_31 : decode cX12_readsCrate 31 = .ok (.aload_n 0, 1) := by decide +kernel
theorem dX12_readsCrate_32 : decode cX12_readsCrate 32 = .ok (.getfield 62, 3) := by decide +kernel
theorem dX12_readsCrate_35 : decode cX12_readsCrate 35 = .ok (.bipush 25, 2) := by decide +kernel
theorem dX12_readsCrate_37 : decode cX12_readsCrate 37 = .ok (.iload_n 2, 1) := by decide +kernel
theorem dX12_readsCrate_38 : decode cX12_readsCrate 38 = .ok (.iadd, 1) := by decide +kernel
theorem dX12_readsCrate_39 : decode cX12_readsCrate 39 = .ok (.aload_n 0, 1) := by decide +kernel
theorem dX12_readsCrate_40 : decode cX12_readsCrate 40 = .ok (.iconst 0, 1) := by decide +kernel
theorem dX12_readsCrate_41 : decode cX12_readsCrate 41 = .ok (.bipush 99, 2) := by decide +kernel
theorem dX12_readsCrate_43 : decode cX12_readsCrate 43 = .ok (.invokevirtual 239, 3) := by decide +kernel
theorem dX12_readsCrate_46 : decode cX12_readsCrate 46 = .ok (.iastore, 1) := by decide +kernel
theorem dX12_readsCrate_47 : decode cX12_readsCrate 47 = .ok (.aload_n 0, 1) := by decide +kernel
theorem dX12_readsCrate_48 : decode cX12_readsCrate 48 = .ok (.getfield 62, 3) := by decide +kernel
theorem dX12_readsCrate_51 : decode cX12_readsCrate 51 = .ok (.bipush 35, 2) := by decide +kernel
theorem dX12_readsCrate_53 : decode cX12_readsCrate 53 = .ok (.iload_n 2, 1) := by decide +kernel
theorem dX12_readsCrate_54 : decode cX12_readsCrate 54 = .ok (.iadd, 1) := by decide +kernel
theorem dX12_readsCrate_55 : decode cX12_readsCrate 55 = .ok (.iload_n 1, 1) := by decide +kernel
theorem dX12_readsCrate_56 : decode cX12_readsCrate 56 = .ok (.iastore, 1) := by decide +kernel
theorem dX12_readsCrate_57 : decode cX12_readsCrate 57 = .ok (.aload_n 0, 1) := by decide +kernel
theorem dX12_readsCrate_58 : decode cX12_readsCrate 58 = .ok (.getfield 62, 3) := by decide +kernel
theorem dX12_readsCrate_61 : decode cX12_readsCrate 61 = .ok (.bipush 55, 2) := by decide +kernel
theorem dX12_readsCrate_63 : decode cX12_readsCrate 63 = .ok (.iload_n 2, 1) := by decide +kernel
theorem dX12_readsCrate_64 : decode cX12_readsCrate 64 = .ok (.iadd, 1) := by decide +kernel
theorem dX12_readsCrate_65 : decode cX12_readsCrate 65 = .ok (.aload_n 0, 1) := by decide +kernel
theorem dX12_readsCrate_66 : decode cX12_readsCrate 66 = .ok (.aload_n 0, 1) := by decide +kernel
theorem dX12_readsCrate_67 : decode cX12_readsCrate 67 = .ok (.getfield 236, 3) := by decide +kernel
theorem dX12_readsCrate_70 : decode cX12_readsCrate 70 = .ok (.invokevirtual 246, 3) := by decide +kernel
theorem dX12_readsCrate_73 : decode cX12_readsCrate 73 = .ok (.iastore, 1) := by decide +kernel
theorem dX12_readsCrate_74 : decode cX12_readsCrate 74 = .ok (.aload_n 0, 1) := by decide +kernel
theorem dX12_readsCrate_75 : decode cX12_readsCrate 75 = .ok (.getfield 62, 3) := by decide +kernel
theorem dX12_readsCrate_78 : decode cX12_readsCrate 78 = .ok (.bipush 65, 2) := by decide +kernel
theorem dX12_readsCrate_80 : decode cX12_readsCrate 80 = .ok (.iload_n 2, 1) := by decide +kernel
theorem dX12_readsCrate_81 : decode cX12_readsCrate 81 = .ok (.iadd, 1) := by decide +kernel
theorem dX12_readsCrate_82 : decode cX12_readsCrate 82 = .ok (.iconst 0, 1) := by decide +kernel
theorem dX12_readsCrate_83 : decode cX12_readsCrate 83 = .ok (.iastore, 1) := by decide +kernel
theorem dX12_readsCrate_84 : decode cX12_readsCrate 84 = .ok (.aload_n 0, 1) := by decide +kernel
theorem dX12_readsCrate_85 : decode cX12_readsCrate 85 = .ok (.getfield 62, 3) := by decide +kernel
theorem dX12_readsCrate_88 : decode cX12_readsCrate 88 = .ok (.bipush 75, 2) := by decide +kernel
theorem dX12_readsCrate_90 : decode cX12_readsCrate 90 = .ok (.iload_n 2, 1) := by decide +kernel
theorem dX12_readsCrate_91 : decode cX12_readsCrate 91 = .ok (.iadd, 1) := by decide +kernel
theorem dX12_readsCrate_92 : decode cX12_readsCrate 92 = .ok (.iconst 0, 1) := by decide +kernel
theorem dX12_readsCrate_93 : decode cX12_readsCrate 93 = .ok (.iastore, 1) := by decide +kernel
theorem dX12_readsCrate_94 : decode cX12_readsCrate 94 = .ok (.aload_n 0, 1) := by decide +kernel
theorem dX12_readsCrate_95 : decode cX12_readsCrate 95 = .ok (.getfield 62, 3) := by decide +kernel
theorem dX12_readsCrate_98 : decode cX12_readsCrate 98 = .ok (.bipush 45, 2) := by decide +kernel
theorem dX12_readsCrate_100 : decode cX12_readsCrate 100 = .ok (.iload_n 2, 1) := by decide +kernel
theorem dX12_readsCrate_101 : decode cX12_readsCrate 101 = .ok (.iadd, 1) := by decide +kernel
theorem dX12_readsCrate_102 : decode cX12_readsCrate 102 = .ok (.iconst 0, 1) := by decide +kernel
theorem dX12_readsCrate_103 : decode cX12_readsCrate 103 = .ok (.iastore, 1) := by decide +kernel
theorem dX12_readsCrate_104 : decode cX12_readsCrate 104 = .ok (.aload_n 0, 1) := by decide +kernel
theorem dX12_readsCrate_105 : decode cX12_readsCrate 105 = .ok (.invokevirtual 176, 3) := by decide +kernel
theorem dX12_readsCrate_108 : decode cX12_readsCrate 108 = .ok (.ifCond .eq 26, 3) := by decide +kernel
theorem dX12_readsCrate_111 : decode cX12_readsCrate 111 = .ok (.aload_n 0, 1) := by decide +kernel
theorem dX12_readsCrate_112 : decode cX12_readsCrate 112 = .ok (.invokevirtual 204, 3) := by decide +kernel
theorem dX12_readsCrate_115 : decode cX12_readsCrate 115 = .ok (.bipush 10, 2) := by decide +kernel
theorem dX12_readsCrate_117 : decode cX12_readsCrate 117 = .ok (.if_icmp .ne 17, 3) := by decide +kernel
theorem dX12_readsCrate_120 : decode cX12_readsCrate 120 = .ok (.aload_n 0, 1) := by decide +kernel
theorem dX12_readsCrate_121 : decode cX12_readsCrate 121 = .ok (.getfield 62, 3) := by decide +kernel
theorem dX12_readsCrate_124 : decode cX12_readsCrate 124 = .ok (.bipush 45, 2) := by decide +kernel
theorem dX12_readsCrate_126 : decode cX12_readsCrate 126 = .ok (.iload_n 2, 1) := by decide +kernel
theorem dX12_readsCrate_127 : decode cX12_readsCrate 127 = .ok (.iadd, 1) := by decide +kernel
theorem dX12_readsCrate_128 : decode cX12_readsCrate 128 = .ok (.iconst 1, 1) := by decide +kernel
theorem dX12_readsCrate_129 : decode cX12_readsCrate 129 = .ok (.iastore, 1) := by decide +kernel
theorem dX12_readsCrate_130 : decode cX12_readsCrate 130 = .ok (.aload_n 0, 1) := by decide +kernel
theorem dX12_readsCrate_131 : decode cX12_readsCrate 131 = .ok (.invokevirtual 180, 3) := by decide +kernel
theorem dX12_readsCrate_134 : decode cX12_readsCrate 134 = .ok (.aload_n 0, 1) := by decide +kernel
theorem dX12_readsCrate_135 : decode cX12_readsCrate 135 = .ok (.invokevirtual 176, 3) := by decide +kernel
theorem dX12_readsCrate_138 : decode cX12_readsCrate 138 = .ok (.ifCond .eq 13, 3) := by decide +kernel
theorem dX12_readsCrate_141 : decode cX12_readsCrate 141 = .ok (.aload_n 0, 1) := by decide +kernel
theorem dX12_readsCrate_142 : decode cX12_readsCrate 142 = .ok (.dup, 1) := by decide +kernel
theorem dX12_readsCrate_143 : decode cX12_readsCrate 143 = .ok (.getfield 253, 3) := by decide +kernel
theorem dX12_readsCrate_146 : decode cX12_readsCrate 146 = .ok (.iconst 1, 1) := by decide +kernel
theorem dX12_readsCrate_147 : decode cX12_readsCrate 147 = .ok (.iadd, 1) := by decide +kernel
theorem dX12_readsCrate_148 : decode cX12_readsCrate 148 = .ok (.putfield 253, 3) := by decide +kernel
theorem dX12_readsCrate_151 : decode cX12_readsCrate 151 = .ok (.return_, 1) := by decide +kernel
theorem dX12_line_0 : decode cX12_line 0 = .ok (.aload_n 0, 1) := by decide +kernel
theorem dX12_line_1 : decode cX12_line 1 = .ok (.invokevirtual 204, 3) := by decide +kernel
theorem dX12_line_4 : decode cX12_line 4 = .ok (.istore_n 1, 1) := by decide +kernel
theorem dX12_line_5 : decode cX12_line 5 = .ok (.iload_n 1, 1) := by decide +kernel
theorem dX12_line_6 : decode cX12_line 6 = .ok (.bipush 6, 2) := by decide +kernel
theorem dX12_line_8 : decode cX12_line 8 = .ok (.if_icmp .ne 10, 3) := by decide +kernel
theorem dX12_line_11 : decode cX12_line 11 = .ok (.aload_n 0, 1) := by decide +kernel
theorem dX12_line_12 : decode cX12_line 12 = .ok (.invokevirtual 256, 3) := by decide +kernel
theorem dX12_line_15 : decode cX12_line 15 = .ok (.goto 97, 3) := by decide +kernel
theorem dX12_line_18 : decode cX12_line 18 = .ok (.iload_n 1, 1) := by decide +kernel
theorem dX12_line_19 : decode cX12_line 19 = .ok (.bipush 7, 2) := by decide +kernel
theorem dX12_line_21 : decode cX12_line 21 = .ok (.if_icmp .ne 10, 3) := by decide +kernel
theorem dX12_line_24 : decode cX12_line 24 = .ok (.aload_n 0, 1) := by decide +kernel
theorem dX12_line_25 : decode cX12_line 25 = .ok (.invokevirtual 259, 3) := by decide +kernel
theorem dX12_line_28 : decode cX12_line 28 = .ok (.goto 84, 3) := by decide +kernel
theorem dX12_line_31 : decode cX12_line 31 = .ok (.iload_n 1, 1) := by decide +kernel
theorem dX12_line_32 : decode cX12_line 32 = .ok (.bipush 8, 2) := by decide +kernel
theorem dX12_line_34 : decode cX12_line 34 = .ok (.if_icmp .eq 9, 3) := by decide +kernel
theorem dX12_line_37 : decode cX12_line 37 = .ok (.iload_n 1, 1) := by decide +kernel
theorem dX12_line_38 : decode cX12_line 38 = .ok (.bipush 9, 2) := by decide +kernel
theorem dX12_line_40 : decode cX12_line 40 = .ok (.if_icmp .ne 21, 3) := by decide +kernel
theorem dX12_line_43 : decode cX12_line 43 = .ok (.aload_n 0, 1) := by decide +kernel
theorem dX12_line_44 : decode cX12_line 44 = .ok (.iload_n 1, 1) := by decide +kernel
theorem dX12_line_45 : decode cX12_line 45 = .ok (.bipush 9, 2) := by decide +kernel
theorem dX12_line_47 : decode cX12_line 47 = .ok (.if_icmp .ne 7, 3) := by decide +kernel
theorem dX12_line_50 : decode cX12_line 50 = .ok (.iconst 1, 1) := by decide +kernel
theorem dX12_line_51 : decode cX12_line 51 = .ok (.goto 4, 3) := by decide +kernel
theorem dX12_line_54 : decode cX12_line 54 = .ok (.iconst 0, 1) := by decide +kernel
theorem dX12_line_55 : decode cX12_line 55 = .ok (.invokevirtual 262, 3) := by decide +kernel
theorem dX12_line_58 : decode cX12_line 58 = .ok (.goto 54, 3) := by decide +kernel
theorem dX12_line_61 : decode cX12_line 61 = .ok (.iload_n 1, 1) := by decide +kernel
theorem dX12_line_62 : decode cX12_line 62 = .ok (.bipush 11, 2) := by decide +kernel
theorem dX12_line_64 : decode cX12_line 64 = .ok (.if_icmp .ne 43, 3) := by decide +kernel
theorem dX12_line_67 : decode cX12_line 67 = .ok (.aload_n 0, 1) := by decide +kernel
theorem dX12_line_68 : decode cX12_line 68 = .ok (.getfield 265, 3) := by decide +kernel
theorem dX12_line_71 : decode cX12_line 71 = .ok (.iconst (-1), 1) := by decide +kernel
theorem dX12_line_72 : decode cX12_line 72 = .ok (.if_icmp .eq 8, 3) := by decide +kernel
theorem dX12_line_75 : decode cX12_line 75 = .ok (.aload_n 0, 1) := by decide +kernel
theorem dX12_line_76 : decode cX12_line 76 = .ok (.iconst 5, 1) := by decide +kernel
theorem dX12_line_77 : decode cX12_line 77 = .ok (.invokevirtual 183, 3) := by decide +kernel
theorem dX12_line_80 : decode cX12_line 80 = .ok (.aload_n 0, 1) := by decide +kernel
theorem dX12_line_81 : decode cX12_line 81 = .ok (.invokevirtual 176, 3) := by decide +kernel
theorem dX12_line_84 : decode cX12_line 84 = .ok (.ifCond .ne 4, 3) := by decide +kernel
theorem dX12_line_87 : decode cX12_line 87 = .ok (.return_, 1) := by decide +kernel
theorem dX12_line_88 : decode cX12_line 88 = .ok (.aload_n 0, 1) := by decide +kernel
theorem dX12_line_89 : decode cX12_line 89 = .ok (.invokevirtual 180, 3) := by decide +kernel
theorem dX12_line_92 : decode cX12_line 92 = .ok (.aload_n 0, 1) := by decide +kernel
theorem dX12_line_93 : decode cX12_line 93 = .ok (.aload_n 0, 1) := by decide +kernel
theorem dX12_line_94 : decode cX12_line 94 = .ok (.getfield 189, 3) := by decide +kernel
theorem dX12_line_97 : decode cX12_line 97 = .ok (.putfield 265, 3) := by decide +kernel
theorem dX12_line_100 : decode cX12_line 100 = .ok (.aload_n 0, 1) := by decide +kernel
theorem dX12_line_101 : decode cX12_line 101 = .ok (.invokevirtual 268, 3) := by decide +kernel
theorem dX12_line_104 : decode cX12_line 104 = .ok (.goto 8, 3) := by decide +kernel
theorem dX12_line_107 : decode cX12_line 107 = .ok (.aload_n 0, 1) := by decide +kernel
theorem dX12_line_108 : decode cX12_line 108 = .ok (.iconst 1, 1) := by decide +kernel
theorem dX12_line_109 : decode cX12_line 109 = .ok (.invokevirtual 183, 3) := by decide +kernel
theorem dX12_line_112 : decode cX12_line 112 = .ok (.aload_n 0, 1) := by decide +kernel
theorem dX12_line_113 : decode cX12_line 113 = .ok (.aload_n 0, 1) := by decide +kernel
theorem dX12_line_114 : decode cX12_line 114 = .ok (.bipush 59, 2) := by decide +kernel
theorem dX12_line_116 : decode cX12_line 116 = .ok (.invokevirtual 211, 3) := by decide +kernel
theorem dX12_line_119 : decode cX12_line 119 = .ok (.invokevirtual 271, 3) := by decide +kernel
theorem dX12_line_122 : decode cX12_line 122 = .ok (.return_, 1) := by decide +kernel
theorem dX12_province_0 : decode cX12_province 0 = .ok (.aload_n 0, 1) := by decide +kernel
theorem dX12_province_1 : decode cX12_province 1 = .ok (.iconst 0, 1) := by decide +kernel
theorem dX12_province_2 : decode cX12_province 2 = .ok (.putfield 117, 3) := by decide +kernel
theorem dX12_province_5 : decode cX12_province 5 = .ok (.aload_n 0, 1) := by decide +kernel
theorem dX12_province_6 : decode cX12_province 6 = .ok (.iload_n 1, 1) := by decide +kernel
theorem dX12_province_7 : decode cX12_province 7 = .ok (.ifCond .lt 15, 3) := by decide +kernel
theorem dX12_province_10 : decode cX12_province 10 = .ok (.iload_n 1, 1) := by decide +kernel
theorem dX12_province_11 : decode cX12_province 11 = .ok (.aload_n 0, 1) := by decide +kernel
theorem dX12_province_12 : decode cX12_province 12 = .ok (.getfield 120, 3) := by decide +kernel
theorem dX12_province_15 : decode cX12_province 15 = .ok (.if_icmp .gt 7, 3) := by decide +kernel
theorem dX12_province_18 : decode cX12_province 18 = .ok (.iconst 1, 1) := by decide +kernel
theorem dX12_province_19 : decode cX12_province 19 = .ok (.goto 4, 3) := by decide +kernel
theorem dX12_province_22 : decode cX12_province 22 = .ok (.iconst 0, 1) := by decide +kernel
theorem dX12_province_23 : decode cX12_province 23 = .ok (.iconst 1, 1) := by decide +kernel
theorem dX12_province_24 : decode cX12_province 24 = .ok (.invokevirtual 274, 3) := by decide +kernel
theorem dX12_province_27 : decode cX12_province 27 = .ok (.ifCond .ne 5, 3) := by decide +kernel
theorem dX12_province_30 : decode cX12_province 30 = .ok (.iconst 0, 1) := by decide +kernel
theorem dX12_province_31 : decode cX12_province 31 = .ok (.ireturn, 1) := by decide +kernel
theorem dX12_province_32 : decode cX12_province 32 = .ok (.aload_n 0, 1) := by decide +kernel
theorem dX12_province_33 : decode cX12_province 33 = .ok (.iconst 0, 1) := by decide +kernel
theorem dX12_province_34 : decode cX12_province 34 = .ok (.putfield 120, 3) := by decide +kernel
theorem dX12_province_37 : decode cX12_province 37 = .ok (.aload_n 0, 1) := by decide +kernel
theorem dX12_province_38 : decode cX12_province 38 = .ok (.iconst (-1), 1) := by decide +kernel
theorem dX12_province_39 : decode cX12_province 39 = .ok (.putfield 38, 3) := by decide +kernel
theorem dX12_province_42 : decode cX12_province 42 = .ok (.aload_n 0, 1) := by decide +kernel
theorem dX12_province_43 : decode cX12_province 43 = .ok (.iconst 0, 1) := by decide +kernel
theorem dX12_province_44 : decode cX12_province 44 = .ok (.putfield 173, 3) := by decide +kernel
theorem dX12_province_47 : decode cX12_province 47 = .ok (.aload_n 0, 1) := by decide +kernel
theorem dX12_province_48 : decode cX12_province 48 = .ok (.iload_n 1, 1) := by decide +kernel
theorem dX12_province_49 : decode cX12_province 49 = .ok (.putfield 127, 3) := by decide +kernel
theorem dX12_province_52 : decode cX12_province 52 = .ok (.aload_n 0, 1) := by decide +kernel
theorem dX12_province_53 : decode cX12_province 53 = .ok (.iconst 0, 1) := by decide +kernel
theorem dX12_province_54 : decode cX12_province 54 = .ok (.putfield 130, 3) := by decide +kernel
theorem dX12_province_57 : decode cX12_province 57 = .ok (.aload_n 0, 1) := by decide +kernel
theorem dX12_province_58 : decode cX12_province 58 = .ok (.iconst 0, 1) := by decide +kernel
theorem dX12_province_59 : decode cX12_province 59 = .ok (.putfield 236, 3) := by decide +kernel
theorem dX12_province_62 : decode cX12_province 62 = .ok (.aload_n 0, 1) := by decide +kernel
theorem dX12_province_63 : decode cX12_province 63 = .ok (.iconst 0, 1) := by decide +kernel
theorem dX12_province_64 : decode cX12_province 64 = .ok (.putfield 243, 3) := by decide +kernel
theorem dX12_province_67 : decode cX12_province 67 = .ok (.aload_n 0, 1) := by decide +kernel
theorem dX12_province_68 : decode cX12_province 68 = .ok (.iconst 0, 1) := by decide +kernel
theorem dX12_province_69 : decode cX12_province 69 = .ok (.putfield 253, 3) := by decide +kernel
theorem dX12_province_72 : decode cX12_province 72 = .ok (.aload_n 0, 1) := by decide +kernel
theorem dX12_province_73 : decode cX12_province 73 = .ok (.iconst (-1), 1) := by decide +kernel
theorem dX12_province_74 : decode cX12_province 74 = .ok (.putfield 265, 3) := by decide +kernel
theorem dX12_province_77 : decode cX12_province 77 = .ok (.aload_n 0, 1) := by decide +kernel
theorem dX12_province_78 : decode cX12_province 78 = .ok (.getfield 62, 3) := by decide +kernel
theorem dX12_province_81 : decode cX12_province 81 = .ok (.iconst 0, 1) := by decide +kernel
theorem dX12_province_82 : decode cX12_province 82 = .ok (.iconst 0, 1) := by decide +kernel
theorem dX12_province_83 : decode cX12_province 83 = .ok (.iastore, 1) := by decide +kernel
theorem dX12_province_84 : decode cX12_province 84 = .ok (.aload_n 0, 1) := by decide +kernel
theorem dX12_province_85 : decode cX12_province 85 = .ok (.iconst 0, 1) := by decide +kernel
theorem dX12_province_86 : decode cX12_province 86 = .ok (.putfield 189, 3) := by decide +kernel
theorem dX12_province_89 : decode cX12_province 89 = .ok (.aload_n 0, 1) := by decide +kernel
theorem dX12_province_90 : decode cX12_province 90 = .ok (.invokevirtual 180, 3) := by decide +kernel
theorem dX12_province_93 : decode cX12_province 93 = .ok (.aload_n 0, 1) := by decide +kernel
theorem dX12_province_94 : decode cX12_province 94 = .ok (.invokevirtual 176, 3) := by decide +kernel
theorem dX12_province_97 : decode cX12_province 97 = .ok (.ifCond .eq 17, 3) := by decide +kernel
theorem dX12_province_100 : decode cX12_province 100 = .ok (.aload_n 0, 1) := by decide +kernel
theorem dX12_province_101 : decode cX12_province 101 = .ok (.getfield 150, 3) := by decide +kernel
theorem dX12_province_104 : decode cX12_province 104 = .ok (.ifCond .eq 10, 3) := by decide +kernel
theorem dX12_province_107 : decode cX12_province 107 = .ok (.aload_n 0, 1) := by decide +kernel
theorem dX12_province_108 : decode cX12_province 108 = .ok (.invokevirtual 278, 3) := by decide +kernel
theorem dX12_province_111 : decode cX12_province 111 = .ok (.goto (-18), 3) := by decide +kernel
theorem dX12_province_114 : decode cX12_province 114 = .ok (.aload_n 0, 1) := by decide +kernel
theorem dX12_province_115 : decode cX12_province 115 = .ok (.invokevirtual 176, 3) := by decide +kernel
theorem dX12_province_118 : decode cX12_province 118 = .ok (.ifCond .ne 18, 3) := by decide +kernel
theorem dX12_province_121 : decode cX12_province 121 = .ok (.aload_n 0, 1) := by decide +kernel
theorem dX12_province_122 : decode cX12_province 122 = .ok (.getfield 41, 3) := by decide +kernel
theorem dX12_province_125 : decode cX12_province 125 = .ok (.iconst 0, 1) := by decide +kernel
theorem dX12_province_126 : decode cX12_province 126 = .ok (.dup2, 1) := by decide +kernel
theorem dX12_province_127 : decode cX12_province 127 = .ok (.iaload, 1) := by decide +kernel
theorem dX12_province_128 : decode cX12_province 128 = .ok (.iconst 1, 1) := by decide +kernel
theorem dX12_province_129 : decode cX12_province 129 = .ok (.iadd, 1) := by decide +kernel
theorem dX12_province_130 : decode cX12_province 130 = .ok (.iastore, 1) := by decide +kernel
theorem dX12_province_131 : decode cX12_province 131 = .ok (.aload_n 0, 1) := by decide +kernel
theorem dX12_province_132 : decode cX12_province 132 = .ok (.getfield 173, 3) := by decide +kernel
theorem dX12_province_135 : decode cX12_province 135 = .ok (.ireturn, 1) := by decide +kernel
theorem dX12_province_136 : decode cX12_province 136 = .ok (.aload_n 0, 1) := by decide +kernel
theorem dX12_province_137 : decode cX12_province 137 = .ok (.aload_n 0, 1) := by decide +kernel
theorem dX12_province_138 : decode cX12_province 138 = .ok (.getfield 236, 3) := by decide +kernel
theorem dX12_province_141 : decode cX12_province 141 = .ok (.putfield 281, 3) := by decide +kernel
theorem dX12_province_144 : decode cX12_province 144 = .ok (.aload_n 0, 1) := by decide +kernel
theorem dX12_province_145 : decode cX12_province 145 = .ok (.aload_n 0, 1) := by decide +kernel
theorem dX12_province_146 : decode cX12_province 146 = .ok (.getfield 243, 3) := by decide +kernel
theorem dX12_province_149 : decode cX12_province 149 = .ok (.putfield 284, 3) := by decide +kernel
theorem dX12_province_152 : decode cX12_province 152 = .ok (.aload_n 0, 1) := by decide +kernel
theorem dX12_province_153 : decode cX12_province 153 = .ok (.aload_n 0, 1) := by decide +kernel
theorem dX12_province_154 : decode cX12_province 154 = .ok (.getfield 253, 3) := by decide +kernel
theorem dX12_province_157 : decode cX12_province 157 = .ok (.putfield 287, 3) := by decide +kernel
theorem dX12_province_160 : decode cX12_province 160 = .ok (.aload_n 0, 1) := by decide +kernel
theorem dX12_province_161 : decode cX12_province 161 = .ok (.aload_n 0, 1) := by decide +kernel
theorem dX12_province_162 : decode cX12_province 162 = .ok (.getfield 265, 3) := by decide +kernel
theorem dX12_province_165 : decode cX12_province 165 = .ok (.putfield 9, 3) := by decide +kernel
theorem dX12_province_168 : decode cX12_province 168 = .ok (.aload_n 0, 1) := by decide +kernel
theorem dX12_province_169 : decode cX12_province 169 = .ok (.aload_n 0, 1) := by decide +kernel
theorem dX12_province_170 : decode cX12_province 170 = .ok (.getfield 44, 3) := by decide +kernel
theorem dX12_province_173 : decode cX12_province 173 = .ok (.aload_n 0, 1) := by decide +kernel
theorem dX12_province_174 : decode cX12_province 174 = .ok (.getfield 13, 3) := by decide +kernel
theorem dX12_province_177 : decode cX12_province 177 = .ok (.invokevirtual 290, 3) := by decide +kernel
theorem dX12_province_180 : decode cX12_province 180 = .ok (.aload_n 0, 1) := by decide +kernel
theorem dX12_province_181 : decode cX12_province 181 = .ok (.aload_n 0, 1) := by decide +kernel
theorem dX12_province_182 : decode cX12_province 182 = .ok (.getfield 47, 3) := by decide +kernel
theorem dX12_province_185 : decode cX12_province 185 = .ok (.aload_n 0, 1) := by decide +kernel
theorem dX12_province_186 : decode cX12_province 186 = .ok (.getfield 17, 3) := by decide +kernel
theorem dX12_province_189 : decode cX12_province 189 = .ok (.invokevirtual 290, 3) := by decide +kernel
theorem dX12_province_192 : decode cX12_province 192 = .ok (.aload_n 0, 1) := by decide +kernel
theorem dX12_province_193 : decode cX12_province 193 = .ok (.aload_n 0, 1) := by decide +kernel
theorem dX12_province_194 : decode cX12_province 194 = .ok (.getfield 50, 3) := by decide +kernel
theorem dX12_province_197 : decode cX12_province 197 = .ok (.aload_n 0, 1) := by decide +kernel
theorem dX12_province_198 : decode cX12_province 198 = .ok (.getfield 20, 3) := by decide +kernel
theorem dX12_province_201 : decode cX12_province 201 = .ok (.invokevirtual 290, 3) := by decide +kernel
theorem dX12_province_204 : decode cX12_province 204 = .ok (.aload_n 0, 1) := by decide +kernel
theorem dX12_province_205 : decode cX12_province 205 = .ok (.aload_n 0, 1) := by decide +kernel
theorem dX12_province_206 : decode cX12_province 206 = .ok (.getfield 53, 3) := by decide +kernel
theorem dX12_province_209 : decode cX12_province 209 = .ok (.aload_n 0, 1) := by decide +kernel
theorem dX12_province_210 : decode cX12_province 210 = .ok (.getfield 23, 3) := by decide +kernel
theorem dX12_province_213 : decode cX12_province 213 = .ok (.invokevirtual 290, 3) := by decide +kernel
theorem dX12_province_216 : decode cX12_province 216 = .ok (.aload_n 0, 1) := by decide +kernel
theorem dX12_province_217 : decode cX12_province 217 = .ok (.aload_n 0, 1) := by decide +kernel
theorem dX12_province_218 : decode cX12_province 218 = .ok (.getfield 56, 3) := by decide +kernel
theorem dX12_province_221 : decode cX12_province 221 = .ok (.aload_n 0, 1) := by decide +kernel
theorem dX12_province_222 : decode cX12_province 222 = .ok (.getfield 26, 3) := by decide +kernel
theorem dX12_province_225 : decode cX12_province 225 = .ok (.invokevirtual 290, 3) := by decide +kernel
theorem dX12_province_228 : decode cX12_province 228 = .ok (.aload_n 0, 1) := by decide +kernel
theorem dX12_province_229 : decode cX12_province 229 = .ok (.aload_n 0, 1) := by decide +kernel
theorem dX12_province_230 : decode cX12_province 230 = .ok (.getfield 59, 3) := by decide +kernel
theorem dX12_province_233 : decode cX12_province 233 = .ok (.aload_n 0, 1) := by decide +kernel
theorem dX12_province_234 : decode cX12_province 234 = .ok (.getfield 29, 3) := by decide +kernel
theorem dX12_province_237 : decode cX12_province 237 = .ok (.invokevirtual 290, 3) := by decide +kernel
theorem dX12_province_240 : decode cX12_province 240 = .ok (.aload_n 0, 1) := by decide +kernel
theorem dX12_province_241 : decode cX12_province 241 = .ok (.aload_n 0, 1) := by decide +kernel
theorem dX12_province_242 : decode cX12_province 242 = .ok (.getfield 65, 3) := by decide +kernel
theorem dX12_province_245 : decode cX12_province 245 = .ok (.aload_n 0, 1) := by decide +kernel
theorem dX12_province_246 : decode cX12_province 246 = .ok (.getfield 32, 3) := by decide +kernel
theorem dX12_province_249 : decode cX12_province 249 = .ok (.invokevirtual 290, 3) := by decide +kernel
theorem dX12_province_252 : decode cX12_province 252 = .ok (.iconst 0, 1) := by decide +kernel
theorem dX12_province_253 : decode cX12_province 253 = .ok (.istore_n 2, 1) := by decide +kernel
theorem dX12_province_254 : decode cX12_province 254 = .ok (.iload_n 2, 1) := by decide +kernel
theorem dX12_province_255 : decode cX12_province 255 = .ok (.bipush 85, 2) := by decide +kernel
theorem dX12_province_257 : decode cX12_province 257 = .ok (.if_icmp .ge 21, 3) := by decide +kernel
theorem dX12_province_260 : decode cX12_province 260 = .ok (.aload_n 0, 1) := by decide +kernel
theorem dX12_province_261 : decode cX12_province 261 = .ok (.getfield 75, 3) := by decide +kernel
theorem dX12_province_264 : decode cX12_province 264 = .ok (.iload_n 2, 1) := by decide +kernel
theorem dX12_province_265 : decode cX12_province 265 = .ok (.aload_n 0, 1) := by decide +kernel
theorem dX12_province_266 : decode cX12_province 266 = .ok (.getfield 62, 3) := by decide +kernel
theorem dX12_province_269 : decode cX12_province 269 = .ok (.iload_n 2, 1) := by decide +kernel
theorem dX12_province_270 : decode cX12_province 270 = .ok (.iaload, 1) := by decide +kernel
theorem dX12_province_271 : decode cX12_province 271 = .ok (.iastore, 1) := by decide +kernel
theorem dX12_province_272 : decode cX12_province 272 = .ok (.iinc 2 1, 3) := by decide +kernel
theorem dX12_province_275 : decode cX12_province 275 = .ok (.goto (-21), 3) := by decide +kernel
theorem dX12_province_278 : decode cX12_province 278 = .ok (.aload_n 0, 1) := by decide +kernel
theorem dX12_province_279 : decode cX12_province 279 = .ok (.iconst 0, 1) := by decide +kernel
theorem dX12_province_280 : decode cX12_province 280 = .ok (.putfield 294, 3) := by decide +kernel
theorem dX12_province_283 : decode cX12_province 283 = .ok (.aload_n 0, 1) := by decide +kernel
theorem dX12_province_284 : decode cX12_province 284 = .ok (.iconst 0, 1) := by decide +kernel
theorem dX12_province_285 : decode cX12_province 285 = .ok (.putfield 297, 3) := by decide +kernel
theorem dX12_province_288 : decode cX12_province 288 = .ok (.aload_n 0, 1) := by decide +kernel
theorem dX12_province_289 : decode cX12_province 289 = .ok (.iconst 0, 1) := by decide +kernel
theorem dX12_province_290 : decode cX12_province 290 = .ok (.putfield 300, 3) := by decide +kernel
theorem dX12_province_293 : decode cX12_province 293 = .ok (.iconst 0, 1) := by decide +kernel
theorem dX12_province_294 : decode cX12_province 294 = .ok (.ireturn, 1) := by decide +kernel
theorem dX12_fault_0 : decode cX12_fault 0 = .ok (.aload_n 0, 1) := by decide +kernel
theorem dX12_fault_1 : decode cX12_fault 1 = .ok (.iconst 0, 1) := by decide +kernel
theorem dX12_fault_2 : decode cX12_fault 2 = .ok (.putfield 117, 3) := by decide +kernel
theorem dX12_fault_5 : decode cX12_fault 5 = .ok (.aload_n 0, 1) := by decide +kernel
theorem dX12_fault_6 : decode cX12_fault 6 = .ok (.getfield 38, 3) := by decide +kernel
theorem dX12_fault_9 : decode cX12_fault 9 = .ok (.ireturn, 1) := by decide +kernel
theorem dX12_keeps_0 : decode cX12_keeps 0 = .ok (.aload_n 0, 1) := by decide +kernel
theorem dX12_keeps_1 : decode cX12_keeps 1 = .ok (.getfield 294, 3) := by decide +kernel
theorem dX12_keeps_4 : decode cX12_keeps 4 = .ok (.bipush 40, 2) := by decide +kernel
theorem dX12_keeps_6 : decode cX12_keeps 6 = .ok (.if_icmp .ne 44, 3) := by decide +kernel
theorem dX12_keeps_9 : decode cX12_keeps 9 = .ok (.bipush 85, 2) := by decide +kernel
theorem dX12_keeps_11 : decode cX12_keeps 11 = .ok (.istore_n 1, 1) := by decide +kernel
theorem dX12_keeps_12 : decode cX12_keeps 12 = .ok (.iload_n 1, 1) := by decide +kernel
theorem dX12_keeps_13 : decode cX12_keeps 13 = .ok (.sipush 3400, 3) := by decide +kernel
theorem dX12_keeps_16 : decode cX12_keeps 16 = .ok (.if_icmp .ge 24, 3) := by decide +kernel
theorem dX12_keeps_19 : decode cX12_keeps 19 = .ok (.aload_n 0, 1) := by decide +kernel
theorem dX12_keeps_20 : decode cX12_keeps 20 = .ok (.getfield 78, 3) := by decide +kernel
theorem dX12_keeps_23 : decode cX12_keeps 23 = .ok (.iload_n 1, 1) := by decide +kernel
theorem dX12_keeps_24 : decode cX12_keeps 24 = .ok (.bipush 85, 2) := by decide +kernel
theorem dX12_keeps_26 : decode cX12_keeps 26 = .ok (.isub, 1) := by decide +kernel
theorem dX12_keeps_27 : decode cX12_keeps 27 = .ok (.aload_n 0, 1) := by decide +kernel
theorem dX12_keeps_28 : decode cX12_keeps 28 = .ok (.getfield 78, 3) := by decide +kernel
theorem dX12_keeps_31 : decode cX12_keeps 31 = .ok (.iload_n 1, 1) := by decide +kernel
theorem dX12_keeps_32 : decode cX12_keeps 32 = .ok (.iaload, 1) := by decide +kernel
theorem dX12_keeps_33 : decode cX12_keeps 33 = .ok (.iastore, 1) := by decide +kernel
theorem dX12_keeps_34 : decode cX12_keeps 34 = .ok (.iinc 1 1, 3) := by decide +kernel
theorem dX12_keeps_37 : decode cX12_keeps 37 = .ok (.goto (-25), 3) := by decide +kernel
theorem dX12_keeps_40 : decode cX12_keeps 40 = .ok (.aload_n 0, 1) := by decide +kernel
theorem dX12_keeps_41 : decode cX12_keeps 41 = .ok (.dup, 1) := by decide +kernel
theorem dX12_keeps_42 : decode cX12_keeps 42 = .ok (.getfield 294, 3) := by decide +kernel
theorem dX12_keeps_45 : decode cX12_keeps 45 = .ok (.iconst 1, 1) := by decide +kernel
theorem dX12_keeps_46 : decode cX12_keeps 46 = .ok (.isub, 1) := by decide +kernel
theorem dX12_keeps_47 : decode cX12_keeps 47 = .ok (.putfield 294, 3) := by decide +kernel
theorem dX12_keeps_50 : decode cX12_keeps 50 = .ok (.iconst 0, 1) := by decide +kernel
theorem dX12_keeps_51 : decode cX12_keeps 51 = .ok (.istore_n 1, 1) := by decide +kernel
theorem dX12_keeps_52 : decode cX12_keeps 52 = .ok (.iload_n 1, 1) := by decide +kernel
theorem dX12_keeps_53 : decode cX12_keeps 53 = .ok (.bipush 85, 2) := by decide +kernel
theorem dX12_keeps_55 : decode cX12_keeps 55 = .ok (.if_icmp .ge 29, 3) := by decide +kernel
theorem dX12_keeps_58 : decode cX12_keeps 58 = .ok (.aload_n 0, 1) := by decide +kernel
theorem dX12_keeps_59 : decode cX12_keeps 59 = .ok (.getfield 78, 3) := by decide +kernel
theorem dX12_keeps_62 : decode cX12_keeps 62 = .ok (.bipush 85, 2) := by decide +kernel
theorem dX12_keeps_64 : decode cX12_keeps 64 = .ok (.aload_n 0, 1) := by decide +kernel
theorem dX12_keeps_65 : decode cX12_keeps 65 = .ok (.getfield 294, 3) := by decide +kernel
theorem dX12_keeps_68 : decode cX12_keeps 68 = .ok (.imul, 1) := by decide +kernel
theorem dX12_keeps_69 : decode cX12_keeps 69 = .ok (.iload_n 1, 1) := by decide +kernel
theorem dX12_keeps_70 : decode cX12_keeps 70 = .ok (.iadd, 1) := by decide +kernel
theorem dX12_keeps_71 : decode cX12_keeps 71 = .ok (.aload_n 0, 1) := by decide +kernel
theorem dX12_keeps_72 : decode cX12_keeps 72 = .ok (.getfield 75, 3) := by decide +kernel
theorem dX12_keeps_75 : decode cX12_keeps 75 = .ok (.iload_n 1, 1) := by decide +kernel
theorem dX12_keeps_76 : decode cX12_keeps 76 = .ok (.iaload, 1) := by decide +kernel
theorem dX12_keeps_77 : decode cX12_keeps 77 = .ok (.iastore, 1) := by decide +kernel
theorem dX12_keeps_78 : decode cX12_keeps 78 = .ok (.iinc 1 1, 3) := by decide +kernel
theorem dX12_keeps_81 : decode cX12_keeps 81 = .ok (.goto (-29), 3) := by decide +kernel
theorem dX12_keeps_84 : decode cX12_keeps 84 = .ok (.aload_n 0, 1) := by decide +kernel
theorem dX12_keeps_85 : decode cX12_keeps 85 = .ok (.dup, 1) := by decide +kernel
theorem dX12_keeps_86 : decode cX12_keeps 86 = .ok (.getfield 294, 3) := by decide +kernel
theorem dX12_keeps_89 : decode cX12_keeps 89 = .ok (.iconst 1, 1) := by decide +kernel
theorem dX12_keeps_90 : decode cX12_keeps 90 = .ok (.iadd, 1) := by decide +kernel
theorem dX12_keeps_91 : decode cX12_keeps 91 = .ok (.putfield 294, 3) := by decide +kernel
theorem dX12_keeps_94 : decode cX12_keeps 94 = .ok (.return_, 1) := by decide +kernel
theorem dX12_refuses_0 : decode cX12_refuses 0 = .ok (.aload_n 0, 1) := by decide +kernel
theorem dX12_refuses_1 : decode cX12_refuses 1 = .ok (.getfield 41, 3) := by decide +kernel
theorem dX12_refuses_4 : decode cX12_refuses 4 = .ok (.iload_n 1, 1) := by decide +kernel
theorem dX12_refuses_5 : decode cX12_refuses 5 = .ok (.dup2, 1) := by decide +kernel
theorem dX12_refuses_6 : decode cX12_refuses 6 = .ok (.iaload, 1) := by decide +kernel
theorem dX12_refuses_7 : decode cX12_refuses 7 = .ok (.iconst 1, 1) := by decide +kernel
theorem dX12_refuses_8 : decode cX12_refuses 8 = .ok (.iadd, 1) := by decide +kernel
theorem dX12_refuses_9 : decode cX12_refuses 9 = .ok (.iastore, 1) := by decide +kernel
theorem dX12_refuses_10 : decode cX12_refuses 10 = .ok (.iconst (-1), 1) := by decide +kernel
theorem dX12_refuses_11 : decode cX12_refuses 11 = .ok (.ireturn, 1) := by decide +kernel
theorem dX12_undo_0 : decode cX12_undo 0 = .ok (.aload_n 0, 1) := by decide +kernel
theorem dX12_undo_1 : decode cX12_undo 1 = .ok (.iconst 0, 1) := by decide +kernel
theorem dX12_undo_2 : decode cX12_undo 2 = .ok (.putfield 117, 3) := by decide +kernel
theorem dX12_undo_5 : decode cX12_undo 5 = .ok (.aload_n 0, 1) := by decide +kernel
theorem dX12_undo_6 : decode cX12_undo 6 = .ok (.getfield 294, 3) := by decide +kernel
theorem dX12_undo_9 : decode cX12_undo 9 = .ok (.ifCond .ne 5, 3) := by decide +kernel
theorem dX12_undo_12 : decode cX12_undo 12 = .ok (.iconst (-1), 1) := by decide +kernel
theorem dX12_undo_13 : decode cX12_undo 13 = .ok (.ireturn, 1) := by decide +kernel
theorem dX12_undo_14 : decode cX12_undo 14 = .ok (.aload_n 0, 1) := by decide +kernel
theorem dX12_undo_15 : decode cX12_undo 15 = .ok (.dup, 1) := by decide +kernel
theorem dX12_undo_16 : decode cX12_undo 16 = .ok (.getfield 294, 3) := by decide +kernel
theorem dX12_undo_19 : decode cX12_undo 19 = .ok (.iconst 1, 1) := by decide +kernel
theorem dX12_undo_20 : decode cX12_undo 20 = .ok (.isub, 1) := by decide +kernel
theorem dX12_undo_21 : decode cX12_undo 21 = .ok (.putfield 294, 3) := by decide +kernel
theorem dX12_undo_24 : decode cX12_undo 24 = .ok (.iconst 0, 1) := by decide +kernel
theorem dX12_undo_25 : decode cX12_undo 25 = .ok (.istore_n 1, 1) := by decide +kernel
theorem dX12_undo_26 : decode cX12_undo 26 = .ok (.iload_n 1, 1) := by decide +kernel
theorem dX12_undo_27 : decode cX12_undo 27 = .ok (.bipush 85, 2) := by decide +kernel
theorem dX12_undo_29 : decode cX12_undo 29 = .ok (.if_icmp .ge 29, 3) := by decide +kernel
theorem dX12_undo_32 : decode cX12_undo 32 = .ok (.aload_n 0, 1) := by decide +kernel
theorem dX12_undo_33 : decode cX12_undo 33 = .ok (.getfield 75, 3) := by decide +kernel
theorem dX12_undo_36 : decode cX12_undo 36 = .ok (.iload_n 1, 1) := by decide +kernel
theorem dX12_undo_37 : decode cX12_undo 37 = .ok (.aload_n 0, 1) := by decide +kernel
theorem dX12_undo_38 : decode cX12_undo 38 = .ok (.getfield 78, 3) := by decide +kernel
theorem dX12_undo_41 : decode cX12_undo 41 = .ok (.bipush 85, 2) := by decide +kernel
theorem dX12_undo_43 : decode cX12_undo 43 = .ok (.aload_n 0, 1) := by decide +kernel
theorem dX12_undo_44 : decode cX12_undo 44 = .ok (.getfield 294, 3) := by decide +kernel
theorem dX12_undo_47 : decode cX12_undo 47 = .ok (.imul, 1) := by decide +kernel
theorem dX12_undo_48 : decode cX12_undo 48 = .ok (.iload_n 1, 1) := by decide +kernel
theorem dX12_undo_49 : decode cX12_undo 49 = .ok (.iadd, 1) := by decide +kernel
theorem dX12_undo_50 : decode cX12_undo 50 = .ok (.iaload, 1) := by decide +kernel
theorem dX12_undo_51 : decode cX12_undo 51 = .ok (.iastore, 1) := by decide +kernel
theorem dX12_undo_52 : decode cX12_undo 52 = .ok (.iinc 1 1, 3) := by decide +kernel
theorem dX12_undo_55 : decode cX12_undo 55 = .ok (.goto (-29), 3) := by decide +kernel
theorem dX12_undo_58 : decode cX12_undo 58 = .ok (.aload_n 0, 1) := by decide +kernel
theorem dX12_undo_59 : decode cX12_undo 59 = .ok (.getfield 294, 3) := by decide +kernel
theorem dX12_undo_62 : decode cX12_undo 62 = .ok (.ireturn, 1) := by decide +kernel
theorem dX12_tries_0 : decode cX12_tries 0 = .ok (.iconst 0, 1) := by decide +kernel
theorem dX12_tries_1 : decode cX12_tries 1 = .ok (.istore_n 1, 1) := by decide +kernel
theorem dX12_tries_2 : decode cX12_tries 2 = .ok (.iload_n 1, 1) := by decide +kernel
theorem dX12_tries_3 : decode cX12_tries 3 = .ok (.bipush 85, 2) := by decide +kernel
theorem dX12_tries_5 : decode cX12_tries 5 = .ok (.if_icmp .ge 24, 3) := by decide +kernel
theorem dX12_tries_8 : decode cX12_tries 8 = .ok (.aload_n 0, 1) := by decide +kernel
theorem dX12_tries_9 : decode cX12_tries 9 = .ok (.getfield 75, 3) := by decide +kernel
theorem dX12_tries_12 : decode cX12_tries 12 = .ok (.bipush 85, 2) := by decide +kernel
theorem dX12_tries_14 : decode cX12_tries 14 = .ok (.iload_n 1, 1) := by decide +kernel
theorem dX12_tries_15 : decode cX12_tries 15 = .ok (.iadd, 1) := by decide +kernel
theorem dX12_tries_16 : decode cX12_tries 16 = .ok (.aload_n 0, 1) := by decide +kernel
theorem dX12_tries_17 : decode cX12_tries 17 = .ok (.getfield 75, 3) := by decide +kernel
theorem dX12_tries_20 : decode cX12_tries 20 = .ok (.iload_n 1, 1) := by decide +kernel
theorem dX12_tries_21 : decode cX12_tries 21 = .ok (.iaload, 1) := by decide +kernel
theorem dX12_tries_22 : decode cX12_tries 22 = .ok (.iastore, 1) := by decide +kernel
theorem dX12_tries_23 : decode cX12_tries 23 = .ok (.iinc 1 1, 3) := by decide +kernel
theorem dX12_tries_26 : decode cX12_tries 26 = .ok (.goto (-24), 3) := by decide +kernel
theorem dX12_tries_29 : decode cX12_tries 29 = .ok (.return_, 1) := by decide +kernel
theorem dX12_works_0 : decode cX12_works 0 = .ok (.iload_n 0, 1) := by decide +kernel
theorem dX12_works_1 : decode cX12_works 1 = .ok (.tableswitch 105 4 10 #[43, 57, 71, 82, 93, 97, 101], 43) := by decide +kernel
theorem dX12_works_44 : decode cX12_works 44 = .ok (.iload_n 1, 1) := by decide +kernel
theorem dX12_works_45 : decode cX12_works 45 = .ok (.ifCond .eq 11, 3) := by decide +kernel
theorem dX12_works_48 : decode cX12_works 48 = .ok (.iload_n 2, 1) := by decide +kernel
theorem dX12_works_49 : decode cX12_works 49 = .ok (.ifCond .eq 7, 3) := by decide +kernel
theorem dX12_works_52 : decode cX12_works 52 = .ok (.iconst 1, 1) := by decide +kernel
theorem dX12_works_53 : decode cX12_works 53 = .ok (.goto 4, 3) := by decide +kernel
theorem dX12_works_56 : decode cX12_works 56 = .ok (.iconst 0, 1) := by decide +kernel
theorem dX12_works_57 : decode cX12_works 57 = .ok (.ireturn, 1) := by decide +kernel
theorem dX12_works_58 : decode cX12_works 58 = .ok (.iload_n 1, 1) := by decide +kernel
theorem dX12_works_59 : decode cX12_works 59 = .ok (.ifCond .ne 7, 3) := by decide +kernel
theorem dX12_works_62 : decode cX12_works 62 = .ok (.iload_n 2, 1) := by decide +kernel
theorem dX12_works_63 : decode cX12_works 63 = .ok (.ifCond .eq 7, 3) := by decide +kernel
theorem dX12_works_66 : decode cX12_works 66 = .ok (.iconst 1, 1) := by decide +kernel
theorem dX12_works_67 : decode cX12_works 67 = .ok (.goto 4, 3) := by decide +kernel
theorem dX12_works_70 : decode cX12_works 70 = .ok (.iconst 0, 1) := by decide +kernel
theorem dX12_works_71 : decode cX12_works 71 = .ok (.ireturn, 1) := by decide +kernel
theorem dX12_works_72 : decode cX12_works 72 = .ok (.iload_n 1, 1) := by decide +kernel
theorem dX12_works_73 : decode cX12_works 73 = .ok (.iload_n 2, 1) := by decide +kernel
theorem dX12_works_74 : decode cX12_works 74 = .ok (.if_icmp .ge 7, 3) := by decide +kernel
theorem dX12_works_77 : decode cX12_works 77 = .ok (.iconst 1, 1) := by decide +kernel
theorem dX12_works_78 : decode cX12_works 78 = .ok (.goto 4, 3) := by decide +kernel
theorem dX12_works_81 : decode cX12_works 81 = .ok (.iconst 0, 1) := by decide +kernel
theorem dX12_works_82 : decode cX12_works 82 = .ok (.ireturn, 1) := by decide +kernel
theorem dX12_works_83 : decode cX12_works 83 = .ok (.iload_n 1, 1) := by decide +kernel
theorem dX12_works_84 : decode cX12_works 84 = .ok (.iload_n 2, 1) := by decide +kernel
theorem dX12_works_85 : decode cX12_works 85 = .ok (.if_icmp .ne 7, 3) := by decide +kernel
theorem dX12_works_88 : decode cX12_works 88 = .ok (.iconst 1, 1) := by decide +kernel
theorem dX12_works_89 : decode cX12_works 89 = .ok (.goto 4, 3) := by decide +kernel
theorem dX12_works_92 : decode cX12_works 92 = .ok (.iconst 0, 1) := by decide +kernel
theorem dX12_works_93 : decode cX12_works 93 = .ok (.ireturn, 1) := by decide +kernel
theorem dX12_works_94 : decode cX12_works 94 = .ok (.iload_n 1, 1) := by decide +kernel
theorem dX12_works_95 : decode cX12_works 95 = .ok (.iload_n 2, 1) := by decide +kernel
theorem dX12_works_96 : decode cX12_works 96 = .ok (.iadd, 1) := by decide +kernel
theorem dX12_works_97 : decode cX12_works 97 = .ok (.ireturn, 1) := by decide +kernel
theorem dX12_works_98 : decode cX12_works 98 = .ok (.iload_n 1, 1) := by decide +kernel
theorem dX12_works_99 : decode cX12_works 99 = .ok (.iload_n 2, 1) := by decide +kernel
theorem dX12_works_100 : decode cX12_works 100 = .ok (.isub, 1) := by decide +kernel
theorem dX12_works_101 : decode cX12_works 101 = .ok (.ireturn, 1) := by decide +kernel
theorem dX12_works_102 : decode cX12_works 102 = .ok (.iload_n 1, 1) := by decide +kernel
theorem dX12_works_103 : decode cX12_works 103 = .ok (.iload_n 2, 1) := by decide +kernel
theorem dX12_works_104 : decode cX12_works 104 = .ok (.imul, 1) := by decide +kernel
theorem dX12_works_105 : decode cX12_works 105 = .ok (.ireturn, 1) := by decide +kernel
theorem dX12_works_106 : decode cX12_works 106 = .ok (.iload_n 2, 1) := by decide +kernel
theorem dX12_works_107 : decode cX12_works 107 = .ok (.ifCond .ne 7, 3) := by decide +kernel
theorem dX12_works_110 : decode cX12_works 110 = .ok (.iconst 0, 1) := by decide +kernel
theorem dX12_works_111 : decode cX12_works 111 = .ok (.goto 6, 3) := by decide +kernel
theorem dX12_works_114 : decode cX12_works 114 = .ok (.iload_n 1, 1) := by decide +kernel
theorem dX12_works_115 : decode cX12_works 115 = .ok (.iload_n 2, 1) := by decide +kernel
theorem dX12_works_116 : decode cX12_works 116 = .ok (.idiv, 1) := by decide +kernel
theorem dX12_works_117 : decode cX12_works 117 = .ok (.ireturn, 1) := by decide +kernel
theorem dX12_reckons_0 : decode cX12_reckons 0 = .ok (.iconst 0, 1) := by decide +kernel
theorem dX12_reckons_1 : decode cX12_reckons 1 = .ok (.istore_n 2, 1) := by decide +kernel
theorem dX12_reckons_2 : decode cX12_reckons 2 = .ok (.iload_n 1, 1) := by decide +kernel
theorem dX12_reckons_3 : decode cX12_reckons 3 = .ok (.istore_n 3, 1) := by decide +kernel
theorem dX12_reckons_4 : decode cX12_reckons 4 = .ok (.aload_n 0, 1) := by decide +kernel
theorem dX12_reckons_5 : decode cX12_reckons 5 = .ok (.getfield 32, 3) := by decide +kernel
theorem dX12_reckons_8 : decode cX12_reckons 8 = .ok (.iload_n 3, 1) := by decide +kernel
theorem dX12_reckons_9 : decode cX12_reckons 9 = .ok (.iaload, 1) := by decide +kernel
theorem dX12_reckons_10 : decode cX12_reckons 10 = .ok (.ifCond .eq 133, 3) := by decide +kernel
theorem dX12_reckons_13 : decode cX12_reckons 13 = .ok (.aload_n 0, 1) := by decide +kernel
theorem dX12_reckons_14 : decode cX12_reckons 14 = .ok (.getfield 32, 3) := by decide +kernel
theorem dX12_reckons_17 : decode cX12_reckons 17 = .ok (.iload_n 3, 1) := by decide +kernel
theorem dX12_reckons_18 : decode cX12_reckons 18 = .ok (.iaload, 1) := by decide +kernel
theorem dX12_reckons_19 : decode cX12_reckons 19 = .ok (.istore 4, 2) := by decide +kernel
theorem dX12_reckons_21 : decode cX12_reckons 21 = .ok (.iinc 3 1, 3) := by decide +kernel
theorem dX12_reckons_24 : decode cX12_reckons 24 = .ok (.iload 4, 2) := by decide +kernel
theorem dX12_reckons_26 : decode cX12_reckons 26 = .ok (.iconst 1, 1) := by decide +kernel
theorem dX12_reckons_27 : decode cX12_reckons 27 = .ok (.if_icmp .eq 9, 3) := by decide +kernel
theorem dX12_reckons_30 : decode cX12_reckons 30 = .ok (.iload 4, 2) := by decide +kernel
theorem dX12_reckons_32 : decode cX12_reckons 32 = .ok (.iconst 2, 1) := by decide +kernel
theorem dX12_reckons_33 : decode cX12_reckons 33 = .ok (.if_icmp .ne 44, 3) := by decide +kernel
theorem dX12_reckons_36 : decode cX12_reckons 36 = .ok (.aload_n 0, 1) := by decide +kernel
theorem dX12_reckons_37 : decode cX12_reckons 37 = .ok (.getfield 84, 3) := by decide +kernel
theorem dX12_reckons_40 : decode cX12_reckons 40 = .ok (.iload_n 2, 1) := by decide +kernel
theorem dX12_reckons_41 : decode cX12_reckons 41 = .ok (.iload 4, 2) := by decide +kernel
theorem dX12_reckons_43 : decode cX12_reckons 43 = .ok (.iconst 1, 1) := by decide +kernel
theorem dX12_reckons_44 : decode cX12_reckons 44 = .ok (.if_icmp .ne 12, 3) := by decide +kernel
theorem dX12_reckons_47 : decode cX12_reckons 47 = .ok (.aload_n 0, 1) := by decide +kernel
theorem dX12_reckons_48 : decode cX12_reckons 48 = .ok (.getfield 32, 3) := by decide +kernel
theorem dX12_reckons_51 : decode cX12_reckons 51 = .ok (.iload_n 3, 1) := by decide +kernel
theorem dX12_reckons_52 : decode cX12_reckons 52 = .ok (.iaload, 1) := by decide +kernel
theorem dX12_reckons_53 : decode cX12_reckons 53 = .ok (.goto 14, 3) := by decide +kernel
theorem dX12_reckons_56 : decode cX12_reckons 56 = .ok (.aload_n 0, 1) := by decide +kernel
theorem dX12_reckons_57 : decode cX12_reckons 57 = .ok (.getfield 81, 3) := by decide +kernel
theorem dX12_reckons_60 : decode cX12_reckons 60 = .ok (.aload_n 0, 1) := by decide +kernel
theorem dX12_reckons_61 : decode cX12_reckons 61 = .ok (.getfield 32, 3) := by decide +kernel
theorem dX12_reckons_64 : decode cX12_reckons 64 = .ok (.iload_n 3, 1) := by decide +kernel
theorem dX12_reckons_65 : decode cX12_reckons 65 = .ok (.iaload, 1) := by decide +kernel
theorem dX12_reckons_66 : decode cX12_reckons 66 = .ok (.iaload, 1) := by decide +kernel
theorem dX12_reckons_67 : decode cX12_reckons 67 = .ok (.iastore, 1) := by decide +kernel
theorem dX12_reckons_68 : decode cX12_reckons 68 = .ok (.iinc 3 1, 3) := by decide +kernel
theorem dX12_reckons_71 : decode cX12_reckons 71 = .ok (.iinc 2 1, 3) := by decide +kernel
theorem dX12_reckons_74 : decode cX12_reckons 74 = .ok (.goto 66, 3) := by decide +kernel
theorem dX12_reckons_77 : decode cX12_reckons 77 = .ok (.iload 4, 2) := by decide +kernel
theorem dX12_reckons_79 : decode cX12_reckons 79 = .ok (.iconst 3, 1) := by decide +kernel
theorem dX12_reckons_80 : decode cX12_reckons 80 = .ok (.if_icmp .ne 30, 3) := by decide +kernel
theorem dX12_reckons_83 : decode cX12_reckons 83 = .ok (.aload_n 0, 1) := by decide +kernel
theorem dX12_reckons_84 : decode cX12_reckons 84 = .ok (.getfield 84, 3) := by decide +kernel
theorem dX12_reckons_87 : decode cX12_reckons 87 = .ok (.iload_n 2, 1) := by decide +kernel
theorem dX12_reckons_88 : decode cX12_reckons 88 = .ok (.iconst 1, 1) := by decide +kernel
theorem dX12_reckons_89 : decode cX12_reckons 89 = .ok (.isub, 1) := by decide +kernel
theorem dX12_reckons_90 : decode cX12_reckons 90 = .ok (.aload_n 0, 1) := by decide +kernel
theorem dX12_reckons_91 : decode cX12_reckons 91 = .ok (.getfield 84, 3) := by decide +kernel
theorem dX12_reckons_94 : decode cX12_reckons 94 = .ok (.iload_n 2, 1) := by decide +kernel
theorem dX12_reckons_95 : decode cX12_reckons 95 = .ok (.iconst 1, 1) := by decide +kernel
theorem dX12_reckons_96 : decode cX12_reckons 96 = .ok (.isub, 1) := by decide +kernel
theorem dX12_reckons_97 : decode cX12_reckons 97 = .ok (.iaload, 1) := by decide +kernel
theorem dX12_reckons_98 : decode cX12_reckons 98 = .ok (.ifCond .ne 7, 3) := by decide +kernel
theorem dX12_reckons_101 : decode cX12_reckons 101 = .ok (.iconst 1, 1) := by decide +kernel
theorem dX12_reckons_102 : decode cX12_reckons 102 = .ok (.goto 4, 3) := by decide +kernel
theorem dX12_reckons_105 : decode cX12_reckons 105 = .ok (.iconst 0, 1) := by decide +kernel
theorem dX12_reckons_106 : decode cX12_reckons 106 = .ok (.iastore, 1) := by decide +kernel
theorem dX12_reckons_107 : decode cX12_reckons 107 = .ok (.goto 33, 3) := by decide +kernel
theorem dX12_reckons_110 : decode cX12_reckons 110 = .ok (.iinc 2 (-1), 3) := by decide +kernel
theorem dX12_reckons_113 : decode cX12_reckons 113 = .ok (.aload_n 0, 1) := by decide +kernel
theorem dX12_reckons_114 : decode cX12_reckons 114 = .ok (.getfield 84, 3) := by decide +kernel
theorem dX12_reckons_117 : decode cX12_reckons 117 = .ok (.iload_n 2, 1) := by decide +kernel
theorem dX12_reckons_118 : decode cX12_reckons 118 = .ok (.iconst 1, 1) := by decide +kernel
theorem dX12_reckons_119 : decode cX12_reckons 119 = .ok (.isub, 1) := by decide +kernel
theorem dX12_reckons_120 : decode cX12_reckons 120 = .ok (.iload 4, 2) := by decide +kernel
theorem dX12_reckons_122 : decode cX12_reckons 122 = .ok (.aload_n 0, 1) := by decide +kernel
theorem dX12_reckons_123 : decode cX12_reckons 123 = .ok (.getfield 84, 3) := by decide +kernel
theorem dX12_reckons_126 : decode cX12_reckons 126 = .ok (.iload_n 2, 1) := by decide +kernel
theorem dX12_reckons_127 : decode cX12_reckons 127 = .ok (.iconst 1, 1) := by decide +kernel
theorem dX12_reckons_128 : decode cX12_reckons 128 = .ok (.isub, 1) := by decide +kernel
theorem dX12_reckons_129 : decode cX12_reckons 129 = .ok (.iaload, 1) := by decide +kernel
theorem dX12_reckons_130 : decode cX12_reckons 130 = .ok (.aload_n 0, 1) := by decide +kernel
theorem dX12_reckons_131 : decode cX12_reckons 131 = .ok (.getfield 84, 3) := by decide +kernel
theorem dX12_reckons_134 : decode cX12_reckons 134 = .ok (.iload_n 2, 1) := by decide +kernel
theorem dX12_reckons_135 : decode cX12_reckons 135 = .ok (.iaload, 1) := by decide +kernel
theorem dX12_reckons_136 : decode cX12_reckons 136 = .ok (.invokestatic 304, 3) := by decide +kernel
theorem dX12_reckons_139 : decode cX12_reckons 139 = .ok (.iastore, 1) := by decide +kernel
theorem dX12_reckons_140 : decode cX12_reckons 140 = .ok (.goto (-136), 3) := by decide +kernel
theorem dX12_reckons_143 : decode cX12_reckons 143 = .ok (.aload_n 0, 1) := by decide +kernel
theorem dX12_reckons_144 : decode cX12_reckons 144 = .ok (.getfield 84, 3) := by decide +kernel
theorem dX12_reckons_147 : decode cX12_reckons 147 = .ok (.iconst 0, 1) := by decide +kernel
theorem dX12_reckons_148 : decode cX12_reckons 148 = .ok (.iaload, 1) := by decide +kernel
theorem dX12_reckons_149 : decode cX12_reckons 149 = .ok (.ireturn, 1) := by decide +kernel
theorem dX12_lies_0 : decode cX12_lies 0 = .ok (.aload_n 0, 1) := by decide +kernel
theorem dX12_lies_1 : decode cX12_lies 1 = .ok (.getfield 75, 3) := by decide +kernel
theorem dX12_lies_4 : decode cX12_lies 4 = .ok (.iload_n 1, 1) := by decide +kernel
theorem dX12_lies_5 : decode cX12_lies 5 = .ok (.bipush 55, 2) := by decide +kernel
theorem dX12_lies_7 : decode cX12_lies 7 = .ok (.iadd, 1) := by decide +kernel
theorem dX12_lies_8 : decode cX12_lies 8 = .ok (.iload_n 2, 1) := by decide +kernel
theorem dX12_lies_9 : decode cX12_lies 9 = .ok (.iadd, 1) := by decide +kernel
theorem dX12_lies_10 : decode cX12_lies 10 = .ok (.iaload, 1) := by decide +kernel
theorem dX12_lies_11 : decode cX12_lies 11 = .ok (.iconst (-1), 1) := by decide +kernel
theorem dX12_lies_12 : decode cX12_lies 12 = .ok (.if_icmp .eq 21, 3) := by decide +kernel
theorem dX12_lies_15 : decode cX12_lies 15 = .ok (.aload_n 0, 1) := by decide +kernel
theorem dX12_lies_16 : decode cX12_lies 16 = .ok (.getfield 75, 3) := by decide +kernel
theorem dX12_lies_19 : decode cX12_lies 19 = .ok (.iload_n 1, 1) := by decide +kernel
theorem dX12_lies_20 : decode cX12_lies 20 = .ok (.bipush 65, 2) := by decide +kernel
theorem dX12_lies_22 : decode cX12_lies 22 = .ok (.iadd, 1) := by decide +kernel
theorem dX12_lies_23 : decode cX12_lies 23 = .ok (.iload_n 2, 1) := by decide +kernel
theorem dX12_lies_24 : decode cX12_lies 24 = .ok (.iadd, 1) := by decide +kernel
theorem dX12_lies_25 : decode cX12_lies 25 = .ok (.iaload, 1) := by decide +kernel
theorem dX12_lies_26 : decode cX12_lies 26 = .ok (.ifCond .ne 7, 3) := by decide +kernel
theorem dX12_lies_29 : decode cX12_lies 29 = .ok (.iconst 1, 1) := by decide +kernel
theorem dX12_lies_30 : decode cX12_lies 30 = .ok (.goto 4, 3) := by decide +kernel
theorem dX12_lies_33 : decode cX12_lies 33 = .ok (.iconst 0, 1) := by decide +kernel
theorem dX12_lies_34 : decode cX12_lies 34 = .ok (.ireturn, 1) := by decide +kernel
theorem dX12_lyingIn_0 : decode cX12_lyingIn 0 = .ok (.iconst 0, 1) := by decide +kernel
theorem dX12_lyingIn_1 : decode cX12_lyingIn 1 = .ok (.istore_n 3, 1) := by decide +kernel
theorem dX12_lyingIn_2 : decode cX12_lyingIn 2 = .ok (.iconst 0, 1) := by decide +kernel
theorem dX12_lyingIn_3 : decode cX12_lyingIn 3 = .ok (.istore 4, 2) := by decide +kernel
theorem dX12_lyingIn_5 : decode cX12_lyingIn 5 = .ok (.iload 4, 2) := by decide +kernel
theorem dX12_lyingIn_7 : decode cX12_lyingIn 7 = .ok (.aload_n 0, 1) := by decide +kernel
theorem dX12_lyingIn_8 : decode cX12_lyingIn 8 = .ok (.getfield 287, 3) := by decide +kernel
theorem dX12_lyingIn_11 : decode cX12_lyingIn 11 = .ok (.if_icmp .ge 46, 3) := by decide +kernel
theorem dX12_lyingIn_14 : decode cX12_lyingIn 14 = .ok (.iload_n 3, 1) := by decide +kernel
theorem dX12_lyingIn_15 : decode cX12_lyingIn 15 = .ok (.aload_n 0, 1) := by decide +kernel
theorem dX12_lyingIn_16 : decode cX12_lyingIn 16 = .ok (.iload_n 1, 1) := by decide +kernel
theorem dX12_lyingIn_17 : decode cX12_lyingIn 17 = .ok (.iload 4, 2) := by decide +kernel
theorem dX12_lyingIn_19 : decode cX12_lyingIn 19 = .ok (.invokevirtual 308, 3) := by decide +kernel
theorem dX12_lyingIn_22 : decode cX12_lyingIn 22 = .ok (.ifCond .eq 26, 3) := by decide +kernel
theorem dX12_lyingIn_25 : decode cX12_lyingIn 25 = .ok (.aload_n 0, 1) := by decide +kernel
theorem dX12_lyingIn_26 : decode cX12_lyingIn 26 = .ok (.getfield 75, 3) := by decide +kernel
theorem dX12_lyingIn_29 : decode cX12_lyingIn 29 = .ok (.iload_n 1, 1) := by decide +kernel
theorem dX12_lyingIn_30 : decode cX12_lyingIn 30 = .ok (.bipush 55, 2) := by decide +kernel
theorem dX12_lyingIn_32 : decode cX12_lyingIn 32 = .ok (.iadd, 1) := by decide +kernel
theorem dX12_lyingIn_33 : decode cX12_lyingIn 33 = .ok (.iload 4, 2) := by decide +kernel
theorem dX12_lyingIn_35 : decode cX12_lyingIn 35 = .ok (.iadd, 1) := by decide +kernel
theorem dX12_lyingIn_36 : decode cX12_lyingIn 36 = .ok (.iaload, 1) := by decide +kernel
theorem dX12_lyingIn_37 : decode cX12_lyingIn 37 = .ok (.iload_n 2, 1) := by decide +kernel
theorem dX12_lyingIn_38 : decode cX12_lyingIn 38 = .ok (.if_icmp .ne 10, 3) := by decide +kernel
theorem dX12_lyingIn_41 : decode cX12_lyingIn 41 = .ok (.iconst 1, 1) := by decide +kernel
theorem dX12_lyingIn_42 : decode cX12_lyingIn 42 = .ok (.iload 4, 2) := by decide +kernel
theorem dX12_lyingIn_44 : decode cX12_lyingIn 44 = .ok (.ishl, 1) := by decide +kernel
theorem dX12_lyingIn_45 : decode cX12_lyingIn 45 = .ok (.goto 4, 3) := by decide +kernel
theorem dX12_lyingIn_48 : decode cX12_lyingIn 48 = .ok (.iconst 0, 1) := by decide +kernel
theorem dX12_lyingIn_49 : decode cX12_lyingIn 49 = .ok (.ior, 1) := by decide +kernel
theorem dX12_lyingIn_50 : decode cX12_lyingIn 50 = .ok (.istore_n 3, 1) := by decide +kernel
theorem dX12_lyingIn_51 : decode cX12_lyingIn 51 = .ok (.iinc 4 1, 3) := by decide +kernel
theorem dX12_lyingIn_54 : decode cX12_lyingIn 54 = .ok (.goto (-49), 3) := by decide +kernel
theorem dX12_lyingIn_57 : decode cX12_lyingIn 57 = .ok (.iload_n 3, 1) := by decide +kernel
theorem dX12_lyingIn_58 : decode cX12_lyingIn 58 = .ok (.ireturn, 1) := by decide +kernel
theorem dX12_oddsOf_0 : decode cX12_oddsOf 0 = .ok (.aload_n 0, 1) := by decide +kernel
theorem dX12_oddsOf_1 : decode cX12_oddsOf 1 = .ok (.getfield 75, 3) := by decide +kernel
theorem dX12_oddsOf_4 : decode cX12_oddsOf 4 = .ok (.iload_n 1, 1) := by decide +kernel
theorem dX12_oddsOf_5 : decode cX12_oddsOf 5 = .ok (.iconst 1, 1) := by decide +kernel
theorem dX12_oddsOf_6 : decode cX12_oddsOf 6 = .ok (.iadd, 1) := by decide +kernel
theorem dX12_oddsOf_7 : decode cX12_oddsOf 7 = .ok (.iload_n 2, 1) := by decide +kernel
theorem dX12_oddsOf_8 : decode cX12_oddsOf 8 = .ok (.iadd, 1) := by decide +kernel
theorem dX12_oddsOf_9 : decode cX12_oddsOf 9 = .ok (.iaload, 1) := by decide +kernel
theorem dX12_oddsOf_10 : decode cX12_oddsOf 10 = .ok (.istore_n 3, 1) := by decide +kernel
theorem dX12_oddsOf_11 : decode cX12_oddsOf 11 = .ok (.aload_n 0, 1) := by decide +kernel
theorem dX12_oddsOf_12 : decode cX12_oddsOf 12 = .ok (.getfield 75, 3) := by decide +kernel
theorem dX12_oddsOf_15 : decode cX12_oddsOf 15 = .ok (.iload_n 1, 1) := by decide +kernel
theorem dX12_oddsOf_16 : decode cX12_oddsOf 16 = .ok (.bipush 9, 2) := by decide +kernel
theorem dX12_oddsOf_18 : decode cX12_oddsOf 18 = .ok (.iadd, 1) := by decide +kernel
theorem dX12_oddsOf_19 : decode cX12_oddsOf 19 = .ok (.iload_n 2, 1) := by decide +kernel
theorem dX12_oddsOf_20 : decode cX12_oddsOf 20 = .ok (.iadd, 1) := by decide +kernel
theorem dX12_oddsOf_21 : decode cX12_oddsOf 21 = .ok (.iaload, 1) := by decide +kernel
theorem dX12_oddsOf_22 : decode cX12_oddsOf 22 = .ok (.istore 4, 2) := by decide +kernel
theorem dX12_oddsOf_24 : decode cX12_oddsOf 24 = .ok (.aload_n 0, 1) := by decide +kernel
theorem dX12_oddsOf_25 : decode cX12_oddsOf 25 = .ok (.getfield 9, 3) := by decide +kernel
theorem dX12_oddsOf_28 : decode cX12_oddsOf 28 = .ok (.iconst (-1), 1) := by decide +kernel
theorem dX12_oddsOf_29 : decode cX12_oddsOf 29 = .ok (.if_icmp .ne 23, 3) := by decide +kernel
theorem dX12_oddsOf_32 : decode cX12_oddsOf 32 = .ok (.bipush 6, 2) := by decide +kernel
theorem dX12_oddsOf_34 : decode cX12_oddsOf 34 = .ok (.iload_n 3, 1) := by decide +kernel
theorem dX12_oddsOf_35 : decode cX12_oddsOf 35 = .ok (.bipush 10, 2) := by decide +kernel
theorem dX12_oddsOf_37 : decode cX12_oddsOf 37 = .ok (.idiv, 1) := by decide +kernel
theorem dX12_oddsOf_38 : decode cX12_oddsOf 38 = .ok (.iadd, 1) := by decide +kernel
theorem dX12_oddsOf_39 : decode cX12_oddsOf 39 = .ok (.iload 4, 2) := by decide +kernel
theorem dX12_oddsOf_41 : decode cX12_oddsOf 41 = .ok (.bipush 10, 2) := by decide +kernel
theorem dX12_oddsOf_43 : decode cX12_oddsOf 43 = .ok (.idiv, 1) := by decide +kernel
theorem dX12_oddsOf_44 : decode cX12_oddsOf 44 = .ok (.isub, 1) := by decide +kernel
theorem dX12_oddsOf_45 : decode cX12_oddsOf 45 = .ok (.iconst 0, 1) := by decide +kernel
theorem dX12_oddsOf_46 : decode cX12_oddsOf 46 = .ok (.bipush 12, 2) := by decide +kernel
theorem dX12_oddsOf_48 : decode cX12_oddsOf 48 = .ok (.invokestatic 311, 3) := by decide +kernel
theorem dX12_oddsOf_51 : decode cX12_oddsOf 51 = .ok (.ireturn, 1) := by decide +kernel
theorem dX12_oddsOf_52 : decode cX12_oddsOf 52 = .ok (.aload_n 0, 1) := by decide +kernel
theorem dX12_oddsOf_53 : decode cX12_oddsOf 53 = .ok (.getfield 81, 3) := by decide +kernel
theorem dX12_oddsOf_56 : decode cX12_oddsOf 56 = .ok (.iconst 0, 1) := by decide +kernel
theorem dX12_oddsOf_57 : decode cX12_oddsOf 57 = .ok (.iload_n 3, 1) := by decide +kernel
theorem dX12_oddsOf_58 : decode cX12_oddsOf 58 = .ok (.iastore, 1) := by decide +kernel
theorem dX12_oddsOf_59 : decode cX12_oddsOf 59 = .ok (.aload_n 0, 1) := by decide +kernel
theorem dX12_oddsOf_60 : decode cX12_oddsOf 60 = .ok (.getfield 81, 3) := by decide +kernel
theorem dX12_oddsOf_63 : decode cX12_oddsOf 63 = .ok (.iconst 1, 1) := by decide +kernel
theorem dX12_oddsOf_64 : decode cX12_oddsOf 64 = .ok (.iload 4, 2) := by decide +kernel
theorem dX12_oddsOf_66 : decode cX12_oddsOf 66 = .ok (.iastore, 1) := by decide +kernel
theorem dX12_oddsOf_67 : decode cX12_oddsOf 67 = .ok (.aload_n 0, 1) := by decide +kernel
theorem dX12_oddsOf_68 : decode cX12_oddsOf 68 = .ok (.getfield 81, 3) := by decide +kernel
theorem dX12_oddsOf_71 : decode cX12_oddsOf 71 = .ok (.iconst 2, 1) := by decide +kernel
theorem dX12_oddsOf_72 : decode cX12_oddsOf 72 = .ok (.aload_n 0, 1) := by decide +kernel
theorem dX12_oddsOf_73 : decode cX12_oddsOf 73 = .ok (.getfield 17, 3) := by decide +kernel
theorem dX12_oddsOf_76 : decode cX12_oddsOf 76 = .ok (.iload_n 2, 1) := by decide +kernel
theorem dX12_oddsOf_77 : decode cX12_oddsOf 77 = .ok (.iaload, 1) := by decide +kernel
theorem dX12_oddsOf_78 : decode cX12_oddsOf 78 = .ok (.iastore, 1) := by decide +kernel
theorem dX12_oddsOf_79 : decode cX12_oddsOf 79 = .ok (.aload_n 0, 1) := by decide +kernel
theorem dX12_oddsOf_80 : decode cX12_oddsOf 80 = .ok (.getfield 81, 3) := by decide +kernel
theorem dX12_oddsOf_83 : decode cX12_oddsOf 83 = .ok (.iconst 3, 1) := by decide +kernel
theorem dX12_oddsOf_84 : decode cX12_oddsOf 84 = .ok (.aload_n 0, 1) := by decide +kernel
theorem dX12_oddsOf_85 : decode cX12_oddsOf 85 = .ok (.getfield 13, 3) := by decide +kernel
theorem dX12_oddsOf_88 : decode cX12_oddsOf 88 = .ok (.iload_n 2, 1) := by decide +kernel
theorem dX12_oddsOf_89 : decode cX12_oddsOf 89 = .ok (.iaload, 1) := by decide +kernel
theorem dX12_oddsOf_90 : decode cX12_oddsOf 90 = .ok (.iastore, 1) := by decide +kernel
theorem dX12_oddsOf_91 : decode cX12_oddsOf 91 = .ok (.aload_n 0, 1) := by decide +kernel
theorem dX12_oddsOf_92 : decode cX12_oddsOf 92 = .ok (.getfield 81, 3) := by decide +kernel
theorem dX12_oddsOf_95 : decode cX12_oddsOf 95 = .ok (.iconst 4, 1) := by decide +kernel
theorem dX12_oddsOf_96 : decode cX12_oddsOf 96 = .ok (.aload_n 0, 1) := by decide +kernel
theorem dX12_oddsOf_97 : decode cX12_oddsOf 97 = .ok (.getfield 75, 3) := by decide +kernel
theorem dX12_oddsOf_100 : decode cX12_oddsOf 100 = .ok (.iload_n 1, 1) := by decide +kernel
theorem dX12_oddsOf_101 : decode cX12_oddsOf 101 = .ok (.iconst 0, 1) := by decide +kernel
theorem dX12_oddsOf_102 : decode cX12_oddsOf 102 = .ok (.iadd, 1) := by decide +kernel
theorem dX12_oddsOf_103 : decode cX12_oddsOf 103 = .ok (.iaload, 1) := by decide +kernel
theorem dX12_oddsOf_104 : decode cX12_oddsOf 104 = .ok (.iastore, 1) := by decide +kernel
theorem dX12_oddsOf_105 : decode cX12_oddsOf 105 = .ok (.aload_n 0, 1) := by decide +kernel
theorem dX12_oddsOf_106 : decode cX12_oddsOf 106 = .ok (.getfield 81, 3) := by decide +kernel
theorem dX12_oddsOf_109 : decode cX12_oddsOf 109 = .ok (.iconst 5, 1) := by decide +kernel
theorem dX12_oddsOf_110 : decode cX12_oddsOf 110 = .ok (.aload_n 0, 1) := by decide +kernel
theorem dX12_oddsOf_111 : decode cX12_oddsOf 111 = .ok (.iload_n 1, 1) := by decide +kernel
theorem dX12_oddsOf_112 : decode cX12_oddsOf 112 = .ok (.iload_n 2, 1) := by decide +kernel
theorem dX12_oddsOf_113 : decode cX12_oddsOf 113 = .ok (.invokevirtual 314, 3) := by decide +kernel
theorem dX12_oddsOf_116 : decode cX12_oddsOf 116 = .ok (.invokestatic 317, 3) := by decide +kernel
theorem dX12_oddsOf_119 : decode cX12_oddsOf 119 = .ok (.iastore, 1) := by decide +kernel
theorem dX12_oddsOf_120 : decode cX12_oddsOf 120 = .ok (.aload_n 0, 1) := by decide +kernel
theorem dX12_oddsOf_121 : decode cX12_oddsOf 121 = .ok (.aload_n 0, 1) := by decide +kernel
theorem dX12_oddsOf_122 : decode cX12_oddsOf 122 = .ok (.getfield 9, 3) := by decide +kernel
theorem dX12_oddsOf_125 : decode cX12_oddsOf 125 = .ok (.invokevirtual 320, 3) := by decide +kernel
theorem dX12_oddsOf_128 : decode cX12_oddsOf 128 = .ok (.iconst 0, 1) := by decide +kernel
theorem dX12_oddsOf_129 : decode cX12_oddsOf 129 = .ok (.bipush 12, 2) := by decide +kernel
theorem dX12_oddsOf_131 : decode cX12_oddsOf 131 = .ok (.invokestatic 311, 3) := by decide +kernel
theorem dX12_oddsOf_134 : decode cX12_oddsOf 134 = .ok (.ireturn, 1) := by decide +kernel
theorem dX12_cratesGo_0 : decode cX12_cratesGo 0 = .ok (.iconst 0, 1) := by decide +kernel
theorem dX12_cratesGo_1 : decode cX12_cratesGo 1 = .ok (.istore_n 2, 1) := by decide +kernel
theorem dX12_cratesGo_2 : decode cX12_cratesGo 2 = .ok (.iload_n 2, 1) := by decide +kernel
theorem dX12_cratesGo_3 : decode cX12_cratesGo 3 = .ok (.aload_n 0, 1) := by decide +kernel
theorem dX12_cratesGo_4 : decode cX12_cratesGo 4 = .ok (.getfield 287, 3) := by decide +kernel
theorem dX12_cratesGo_7 : decode cX12_cratesGo 7 = .ok (.if_icmp .ge 95, 3) := by decide +kernel
theorem dX12_cratesGo_10 : decode cX12_cratesGo 10 = .ok (.aload_n 0, 1) := by decide +kernel
theorem dX12_cratesGo_11 : decode cX12_cratesGo 11 = .ok (.getfield 75, 3) := by decide +kernel
theorem dX12_cratesGo_14 : decode cX12_cratesGo 14 = .ok (.iload_n 1, 1) := by decide +kernel
theorem dX12_cratesGo_15 : decode cX12_cratesGo 15 = .ok (.bipush 65, 2) := by decide +kernel
theorem dX12_cratesGo_17 : decode cX12_cratesGo 17 = .ok (.iadd, 1) := by decide +kernel
theorem dX12_cratesGo_18 : decode cX12_cratesGo 18 = .ok (.iload_n 2, 1) := by decide +kernel
theorem dX12_cratesGo_19 : decode cX12_cratesGo 19 = .ok (.iadd, 1) := by decide +kernel
theorem dX12_cratesGo_20 : decode cX12_cratesGo 20 = .ok (.iaload, 1) := by decide +kernel
theorem dX12_cratesGo_21 : decode cX12_cratesGo 21 = .ok (.ifCond .ne 6, 3) := by decide +kernel
theorem dX12_cratesGo_24 : decode cX12_cratesGo 24 = .ok (.goto 72, 3) := by decide +kernel
theorem dX12_cratesGo_27 : decode cX12_cratesGo 27 = .ok (.aload_n 0, 1) := by decide +kernel
theorem dX12_cratesGo_28 : decode cX12_cratesGo 28 = .ok (.getfield 75, 3) := by decide +kernel
theorem dX12_cratesGo_31 : decode cX12_cratesGo 31 = .ok (.iload_n 1, 1) := by decide +kernel
theorem dX12_cratesGo_32 : decode cX12_cratesGo 32 = .ok (.bipush 45, 2) := by decide +kernel
theorem dX12_cratesGo_34 : decode cX12_cratesGo 34 = .ok (.iadd, 1) := by decide +kernel
theorem dX12_cratesGo_35 : decode cX12_cratesGo 35 = .ok (.iload_n 2, 1) := by decide +kernel
theorem dX12_cratesGo_36 : decode cX12_cratesGo 36 = .ok (.iadd, 1) := by decide +kernel
theorem dX12_cratesGo_37 : decode cX12_cratesGo 37 = .ok (.iaload, 1) := by decide +kernel
theorem dX12_cratesGo_38 : decode cX12_cratesGo 38 = .ok (.ifCond .ne 43, 3) := by decide +kernel
theorem dX12_cratesGo_41 : decode cX12_cratesGo 41 = .ok (.aload_n 0, 1) := by decide +kernel
theorem dX12_cratesGo_42 : decode cX12_cratesGo 42 = .ok (.getfield 75, 3) := by decide +kernel
theorem dX12_cratesGo_45 : decode cX12_cratesGo 45 = .ok (.iload_n 1, 1) := by decide +kernel
theorem dX12_cratesGo_46 : decode cX12_cratesGo 46 = .ok (.bipush 25, 2) := by decide +kernel
theorem dX12_cratesGo_48 : decode cX12_cratesGo 48 = .ok (.iadd, 1) := by decide +kernel
theorem dX12_cratesGo_49 : decode cX12_cratesGo 49 = .ok (.iload_n 2, 1) := by decide +kernel
theorem dX12_cratesGo_50 : decode cX12_cratesGo 50 = .ok (.iadd, 1) := by decide +kernel
theorem dX12_cratesGo_51 : decode cX12_cratesGo 51 = .ok (.aload_n 0, 1) := by decide +kernel
theorem dX12_cratesGo_52 : decode cX12_cratesGo 52 = .ok (.getfield 75, 3) := by decide +kernel
theorem dX12_cratesGo_55 : decode cX12_cratesGo 55 = .ok (.iload_n 1, 1) := by decide +kernel
theorem dX12_cratesGo_56 : decode cX12_cratesGo 56 = .ok (.bipush 25, 2) := by decide +kernel
theorem dX12_cratesGo_58 : decode cX12_cratesGo 58 = .ok (.iadd, 1) := by decide +kernel
theorem dX12_cratesGo_59 : decode cX12_cratesGo 59 = .ok (.iload_n 2, 1) := by decide +kernel
theorem dX12_cratesGo_60 : decode cX12_cratesGo 60 = .ok (.iadd, 1) := by decide +kernel
theorem dX12_cratesGo_61 : decode cX12_cratesGo 61 = .ok (.iaload, 1) := by decide +kernel
theorem dX12_cratesGo_62 : decode cX12_cratesGo 62 = .ok (.aload_n 0, 1) := by decide +kernel
theorem dX12_cratesGo_63 : decode cX12_cratesGo 63 = .ok (.getfield 75, 3) := by decide +kernel
theorem dX12_cratesGo_66 : decode cX12_cratesGo 66 = .ok (.iload_n 1, 1) := by decide +kernel
theorem dX12_cratesGo_67 : decode cX12_cratesGo 67 = .ok (.bipush 75, 2) := by decide +kernel
theorem dX12_cratesGo_69 : decode cX12_cratesGo 69 = .ok (.iadd, 1) := by decide +kernel
theorem dX12_cratesGo_70 : decode cX12_cratesGo 70 = .ok (.iload_n 2, 1) := by decide +kernel
theorem dX12_cratesGo_71 : decode cX12_cratesGo 71 = .ok (.iadd, 1) := by decide +kernel
theorem dX12_cratesGo_72 : decode cX12_cratesGo 72 = .ok (.iaload, 1) := by decide +kernel
theorem dX12_cratesGo_73 : decode cX12_cratesGo 73 = .ok (.isub, 1) := by decide +kernel
theorem dX12_cratesGo_74 : decode cX12_cratesGo 74 = .ok (.iconst 0, 1) := by decide +kernel
theorem dX12_cratesGo_75 : decode cX12_cratesGo 75 = .ok (.bipush 99, 2) := by decide +kernel
theorem dX12_cratesGo_77 : decode cX12_cratesGo 77 = .ok (.invokestatic 311, 3) := by decide +kernel
theorem dX12_cratesGo_80 : decode cX12_cratesGo 80 = .ok (.iastore, 1) := by decide +kernel
theorem dX12_cratesGo_81 : decode cX12_cratesGo 81 = .ok (.aload_n 0, 1) := by decide +kernel
theorem dX12_cratesGo_82 : decode cX12_cratesGo 82 = .ok (.getfield 75, 3) := by decide +kernel
theorem dX12_cratesGo_85 : decode cX12_cratesGo 85 = .ok (.iload_n 1, 1) := by decide +kernel
theorem dX12_cratesGo_86 : decode cX12_cratesGo 86 = .ok (.bipush 65, 2) := by decide +kernel
theorem dX12_cratesGo_88 : decode cX12_cratesGo 88 = .ok (.iadd, 1) := by decide +kernel
theorem dX12_cratesGo_89 : decode cX12_cratesGo 89 = .ok (.iload_n 2, 1) := by decide +kernel
theorem dX12_cratesGo_90 : decode cX12_cratesGo 90 = .ok (.iadd, 1) := by decide +kernel
theorem dX12_cratesGo_91 : decode cX12_cratesGo 91 = .ok (.dup2, 1) := by decide +kernel
theorem dX12_cratesGo_92 : decode cX12_cratesGo 92 = .ok (.iaload, 1) := by decide +kernel
theorem dX12_cratesGo_93 : decode cX12_cratesGo 93 = .ok (.iconst 1, 1) := by decide +kernel
theorem dX12_cratesGo_94 : decode cX12_cratesGo 94 = .ok (.isub, 1) := by decide +kernel
theorem dX12_cratesGo_95 : decode cX12_cratesGo 95 = .ok (.iastore, 1) := by decide +kernel
theorem dX12_cratesGo_96 : decode cX12_cratesGo 96 = .ok (.iinc 2 1, 3) := by decide +kernel
theorem dX12_cratesGo_99 : decode cX12_cratesGo 99 = .ok (.goto (-97), 3) := by decide +kernel
theorem dX12_cratesGo_102 : decode cX12_cratesGo 102 = .ok (.return_, 1) := by decide +kernel
theorem dX12_makesLuck_0 : decode cX12_makesLuck 0 = .ok (.aload_n 0, 1) := by decide +kernel
theorem dX12_makesLuck_1 : decode cX12_makesLuck 1 = .ok (.getfield 75, 3) := by decide +kernel
theorem dX12_makesLuck_4 : decode cX12_makesLuck 4 = .ok (.iload_n 1, 1) := by decide +kernel
theorem dX12_makesLuck_5 : decode cX12_makesLuck 5 = .ok (.iconst 1, 1) := by decide +kernel
theorem dX12_makesLuck_6 : decode cX12_makesLuck 6 = .ok (.iadd, 1) := by decide +kernel
theorem dX12_makesLuck_7 : decode cX12_makesLuck 7 = .ok (.iload_n 2, 1) := by decide +kernel
theorem dX12_makesLuck_8 : decode cX12_makesLuck 8 = .ok (.iadd, 1) := by decide +kernel
theorem dX12_makesLuck_9 : decode cX12_makesLuck 9 = .ok (.aload_n 0, 1) := by decide +kernel
theorem dX12_makesLuck_10 : decode cX12_makesLuck 10 = .ok (.getfield 75, 3) := by decide +kernel
theorem dX12_makesLuck_13 : decode cX12_makesLuck 13 = .ok (.iload_n 1, 1) := by decide +kernel
theorem dX12_makesLuck_14 : decode cX12_makesLuck 14 = .ok (.iconst 1, 1) := by decide +kernel
theorem dX12_makesLuck_15 : decode cX12_makesLuck 15 = .ok (.iadd, 1) := by decide +kernel
theorem dX12_makesLuck_16 : decode cX12_makesLuck 16 = .ok (.iload_n 2, 1) := by decide +kernel
theorem dX12_makesLuck_17 : decode cX12_makesLuck 17 = .ok (.iadd, 1) := by decide +kernel
theorem dX12_makesLuck_18 : decode cX12_makesLuck 18 = .ok (.iaload, 1) := by decide +kernel
theorem dX12_makesLuck_19 : decode cX12_makesLuck 19 = .ok (.aload_n 0, 1) := by decide +kernel
theorem dX12_makesLuck_20 : decode cX12_makesLuck 20 = .ok (.getfield 13, 3) := by decide +kernel
theorem dX12_makesLuck_23 : decode cX12_makesLuck 23 = .ok (.iload_n 2, 1) := by decide +kernel
theorem dX12_makesLuck_24 : decode cX12_makesLuck 24 = .ok (.iaload, 1) := by decide +kernel
theorem dX12_makesLuck_25 : decode cX12_makesLuck 25 = .ok (.iadd, 1) := by decide +kernel
theorem dX12_makesLuck_26 : decode cX12_makesLuck 26 = .ok (.iconst 0, 1) := by decide +kernel
theorem dX12_makesLuck_27 : decode cX12_makesLuck 27 = .ok (.sipush 9999, 3) := by decide +kernel
theorem dX12_makesLuck_30 : decode cX12_makesLuck 30 = .ok (.invokestatic 311, 3) := by decide +kernel
theorem dX12_makesLuck_33 : decode cX12_makesLuck 33 = .ok (.iastore, 1) := by decide +kernel
theorem dX12_makesLuck_34 : decode cX12_makesLuck 34 = .ok (.return_, 1) := by decide +kernel
theorem dX12_stakes_0 : decode cX12_stakes 0 = .ok (.aload_n 0, 1) := by decide +kernel
theorem dX12_stakes_1 : decode cX12_stakes 1 = .ok (.getfield 75, 3) := by decide +kernel
theorem dX12_stakes_4 : decode cX12_stakes 4 = .ok (.iload_n 1, 1) := by decide +kernel
theorem dX12_stakes_5 : decode cX12_stakes 5 = .ok (.bipush 17, 2) := by decide +kernel
theorem dX12_stakes_7 : decode cX12_stakes 7 = .ok (.iadd, 1) := by decide +kernel
theorem dX12_stakes_8 : decode cX12_stakes 8 = .ok (.iload_n 2, 1) := by decide +kernel
theorem dX12_stakes_9 : decode cX12_stakes 9 = .ok (.iadd, 1) := by decide +kernel
theorem dX12_stakes_10 : decode cX12_stakes 10 = .ok (.dup2, 1) := by decide +kernel
theorem dX12_stakes_11 : decode cX12_stakes 11 = .ok (.iaload, 1) := by decide +kernel
theorem dX12_stakes_12 : decode cX12_stakes 12 = .ok (.iload_n 3, 1) := by decide +kernel
theorem dX12_stakes_13 : decode cX12_stakes 13 = .ok (.ifCond .eq 12, 3) := by decide +kernel
theorem dX12_stakes_16 : decode cX12_stakes 16 = .ok (.aload_n 0, 1) := by decide +kernel
theorem dX12_stakes_17 : decode cX12_stakes 17 = .ok (.getfield 17, 3) := by decide +kernel
theorem dX12_stakes_20 : decode cX12_stakes 20 = .ok (.iload_n 2, 1) := by decide +kernel
theorem dX12_stakes_21 : decode cX12_stakes 21 = .ok (.iaload, 1) := by decide +kernel
theorem dX12_stakes_22 : decode cX12_stakes 22 = .ok (.goto 11, 3) := by decide +kernel
theorem dX12_stakes_25 : decode cX12_stakes 25 = .ok (.iconst 0, 1) := by decide +kernel
theorem dX12_stakes_26 : decode cX12_stakes 26 = .ok (.aload_n 0, 1) := by decide +kernel
theorem dX12_stakes_27 : decode cX12_stakes 27 = .ok (.getfield 17, 3) := by decide +kernel
theorem dX12_stakes_30 : decode cX12_stakes 30 = .ok (.iload_n 2, 1) := by decide +kernel
theorem dX12_stakes_31 : decode cX12_stakes 31 = .ok (.iaload, 1) := by decide +kernel
theorem dX12_stakes_32 : decode cX12_stakes 32 = .ok (.isub, 1) := by decide +kernel
theorem dX12_stakes_33 : decode cX12_stakes 33 = .ok (.iadd, 1) := by decide +kernel
theorem dX12_stakes_34 : decode cX12_stakes 34 = .ok (.iastore, 1) := by decide +kernel
theorem dX12_stakes_35 : decode cX12_stakes 35 = .ok (.aload_n 0, 1) := by decide +kernel
theorem dX12_stakes_36 : decode cX12_stakes 36 = .ok (.getfield 75, 3) := by decide +kernel
theorem dX12_stakes_39 : decode cX12_stakes 39 = .ok (.iload_n 1, 1) := by decide +kernel
theorem dX12_stakes_40 : decode cX12_stakes 40 = .ok (.iconst 1, 1) := by decide +kernel
theorem dX12_stakes_41 : decode cX12_stakes 41 = .ok (.iadd, 1) := by decide +kernel
theorem dX12_stakes_42 : decode cX12_stakes 42 = .ok (.iload_n 2, 1) := by decide +kernel
theorem dX12_stakes_43 : decode cX12_stakes 43 = .ok (.iadd, 1) := by decide +kernel
theorem dX12_stakes_44 : decode cX12_stakes 44 = .ok (.aload_n 0, 1) := by decide +kernel
theorem dX12_stakes_45 : decode cX12_stakes 45 = .ok (.getfield 75, 3) := by decide +kernel
theorem dX12_stakes_48 : decode cX12_stakes 48 = .ok (.iload_n 1, 1) := by decide +kernel
theorem dX12_stakes_49 : decode cX12_stakes 49 = .ok (.iconst 1, 1) := by decide +kernel
theorem dX12_stakes_50 : decode cX12_stakes 50 = .ok (.iadd, 1) := by decide +kernel
theorem dX12_stakes_51 : decode cX12_stakes 51 = .ok (.iload_n 2, 1) := by decide +kernel
theorem dX12_stakes_52 : decode cX12_stakes 52 = .ok (.iadd, 1) := by decide +kernel
theorem dX12_stakes_53 : decode cX12_stakes 53 = .ok (.iaload, 1) := by decide +kernel
theorem dX12_stakes_54 : decode cX12_stakes 54 = .ok (.iload_n 3, 1) := by decide +kernel
theorem dX12_stakes_55 : decode cX12_stakes 55 = .ok (.ifCond .eq 14, 3) := by decide +kernel
theorem dX12_stakes_58 : decode cX12_stakes 58 = .ok (.iconst 0, 1) := by decide +kernel
theorem dX12_stakes_59 : decode cX12_stakes 59 = .ok (.aload_n 0, 1) := by decide +kernel
theorem dX12_stakes_60 : decode cX12_stakes 60 = .ok (.getfield 17, 3) := by decide +kernel
theorem dX12_stakes_63 : decode cX12_stakes 63 = .ok (.iload_n 2, 1) := by decide +kernel
theorem dX12_stakes_64 : decode cX12_stakes 64 = .ok (.iaload, 1) := by decide +kernel
theorem dX12_stakes_65 : decode cX12_stakes 65 = .ok (.isub, 1) := by decide +kernel
theorem dX12_stakes_66 : decode cX12_stakes 66 = .ok (.goto 11, 3) := by decide +kernel
theorem dX12_stakes_69 : decode cX12_stakes 69 = .ok (.aload_n 0, 1) := by decide +kernel
theorem dX12_stakes_70 : decode cX12_stakes 70 = .ok (.getfield 17, 3) := by decide +kernel
theorem dX12_stakes_73 : decode cX12_stakes 73 = .ok (.iload_n 2, 1) := by decide +kernel
theorem dX12_stakes_74 : decode cX12_stakes 74 = .ok (.iaload, 1) := by decide +kernel
theorem dX12_stakes_75 : decode cX12_stakes 75 = .ok (.iconst 2, 1) := by decide +kernel
theorem dX12_stakes_76 : decode cX12_stakes 76 = .ok (.idiv, 1) := by decide +kernel
theorem dX12_stakes_77 : decode cX12_stakes 77 = .ok (.iadd, 1) := by decide +kernel
theorem dX12_stakes_78 : decode cX12_stakes 78 = .ok (.iconst 0, 1) := by decide +kernel
theorem dX12_stakes_79 : decode cX12_stakes 79 = .ok (.sipush 9999, 3) := by decide +kernel
theorem dX12_stakes_82 : decode cX12_stakes 82 = .ok (.invokestatic 311, 3) := by decide +kernel
theorem dX12_stakes_85 : decode cX12_stakes 85 = .ok (.iastore, 1) := by decide +kernel
theorem dX12_stakes_86 : decode cX12_stakes 86 = .ok (.aload_n 0, 1) := by decide +kernel
theorem dX12_stakes_87 : decode cX12_stakes 87 = .ok (.getfield 75, 3) := by decide +kernel
theorem dX12_stakes_90 : decode cX12_stakes 90 = .ok (.iload_n 1, 1) := by decide +kernel
theorem dX12_stakes_91 : decode cX12_stakes 91 = .ok (.iconst 1, 1) := by decide +kernel
theorem dX12_stakes_92 : decode cX12_stakes 92 = .ok (.iadd, 1) := by decide +kernel
theorem dX12_stakes_93 : decode cX12_stakes 93 = .ok (.iload_n 2, 1) := by decide +kernel
theorem dX12_stakes_94 : decode cX12_stakes 94 = .ok (.iadd, 1) := by decide +kernel
theorem dX12_stakes_95 : decode cX12_stakes 95 = .ok (.iaload, 1) := by decide +kernel
theorem dX12_stakes_96 : decode cX12_stakes 96 = .ok (.aload_n 0, 1) := by decide +kernel
theorem dX12_stakes_97 : decode cX12_stakes 97 = .ok (.getfield 75, 3) := by decide +kernel
theorem dX12_stakes_100 : decode cX12_stakes 100 = .ok (.iload_n 1, 1) := by decide +kernel
theorem dX12_stakes_101 : decode cX12_stakes 101 = .ok (.bipush 9, 2) := by decide +kernel
theorem dX12_stakes_103 : decode cX12_stakes 103 = .ok (.iadd, 1) := by decide +kernel
theorem dX12_stakes_104 : decode cX12_stakes 104 = .ok (.iload_n 2, 1) := by decide +kernel
theorem dX12_stakes_105 : decode cX12_stakes 105 = .ok (.iadd, 1) := by decide +kernel
theorem dX12_stakes_106 : decode cX12_stakes 106 = .ok (.iaload, 1) := by decide +kernel
theorem dX12_stakes_107 : decode cX12_stakes 107 = .ok (.invokestatic 323, 3) := by decide +kernel
theorem dX12_stakes_110 : decode cX12_stakes 110 = .ok (.istore 4, 2) := by decide +kernel
theorem dX12_stakes_112 : decode cX12_stakes 112 = .ok (.aload_n 0, 1) := by decide +kernel
theorem dX12_stakes_113 : decode cX12_stakes 113 = .ok (.getfield 75, 3) := by decide +kernel
theorem dX12_stakes_116 : decode cX12_stakes 116 = .ok (.iload_n 1, 1) := by decide +kernel
theorem dX12_stakes_117 : decode cX12_stakes 117 = .ok (.iconst 1, 1) := by decide +kernel
theorem dX12_stakes_118 : decode cX12_stakes 118 = .ok (.iadd, 1) := by decide +kernel
theorem dX12_stakes_119 : decode cX12_stakes 119 = .ok (.iload_n 2, 1) := by decide +kernel
theorem dX12_stakes_120 : decode cX12_stakes 120 = .ok (.iadd, 1) := by decide +kernel
theorem dX12_stakes_121 : decode cX12_stakes 121 = .ok (.dup2, 1) := by decide +kernel
theorem dX12_stakes_122 : decode cX12_stakes 122 = .ok (.iaload, 1) := by decide +kernel
theorem dX12_stakes_123 : decode cX12_stakes 123 = .ok (.iload 4, 2) := by decide +kernel
theorem dX12_stakes_125 : decode cX12_stakes 125 = .ok (.isub, 1) := by decide +kernel
theorem dX12_stakes_126 : decode cX12_stakes 126 = .ok (.iastore, 1) := by decide +kernel
theorem dX12_stakes_127 : decode cX12_stakes 127 = .ok (.aload_n 0, 1) := by decide +kernel
theorem dX12_stakes_128 : decode cX12_stakes 128 = .ok (.getfield 75, 3) := by decide +kernel
theorem dX12_stakes_131 : decode cX12_stakes 131 = .ok (.iload_n 1, 1) := by decide +kernel
theorem dX12_stakes_132 : decode cX12_stakes 132 = .ok (.bipush 9, 2) := by decide +kernel
theorem dX12_stakes_134 : decode cX12_stakes 134 = .ok (.iadd, 1) := by decide +kernel
theorem dX12_stakes_135 : decode cX12_stakes 135 = .ok (.iload_n 2, 1) := by decide +kernel
theorem dX12_stakes_136 : decode cX12_stakes 136 = .ok (.iadd, 1) := by decide +kernel
theorem dX12_stakes_137 : decode cX12_stakes 137 = .ok (.dup2, 1) := by decide +kernel
theorem dX12_stakes_138 : decode cX12_stakes 138 = .ok (.iaload, 1) := by decide +kernel
theorem dX12_stakes_139 : decode cX12_stakes 139 = .ok (.iload 4, 2) := by decide +kernel
theorem dX12_stakes_141 : decode cX12_stakes 141 = .ok (.isub, 1) := by decide +kernel
theorem dX12_stakes_142 : decode cX12_stakes 142 = .ok (.iastore, 1) := by decide +kernel
theorem dX12_stakes_143 : decode cX12_stakes 143 = .ok (.return_, 1) := by decide +kernel
theorem dX12_dayGoes_0 : decode cX12_dayGoes 0 = .ok (.aload_n 0, 1) := by decide +kernel
theorem dX12_dayGoes_1 : decode cX12_dayGoes 1 = .ok (.iload_n 1, 1) := by decide +kernel
theorem dX12_dayGoes_2 : decode cX12_dayGoes 2 = .ok (.invokevirtual 326, 3) := by decide +kernel
theorem dX12_dayGoes_5 : decode cX12_dayGoes 5 = .ok (.aload_n 0, 1) := by decide +kernel
theorem dX12_dayGoes_6 : decode cX12_dayGoes 6 = .ok (.iconst 0, 1) := by decide +kernel
theorem dX12_dayGoes_7 : decode cX12_dayGoes 7 = .ok (.putfield 329, 3) := by decide +kernel
theorem dX12_dayGoes_10 : decode cX12_dayGoes 10 = .ok (.iconst 0, 1) := by decide +kernel
theorem dX12_dayGoes_11 : decode cX12_dayGoes 11 = .ok (.istore_n 2, 1) := by decide +kernel
theorem dX12_dayGoes_12 : decode cX12_dayGoes 12 = .ok (.iload_n 2, 1) := by decide +kernel
theorem dX12_dayGoes_13 : decode cX12_dayGoes 13 = .ok (.aload_n 0, 1) := by decide +kernel
theorem dX12_dayGoes_14 : decode cX12_dayGoes 14 = .ok (.getfield 281, 3) := by decide +kernel
theorem dX12_dayGoes_17 : decode cX12_dayGoes 17 = .ok (.if_icmp .ge 59, 3) := by decide +kernel
theorem dX12_dayGoes_20 : decode cX12_dayGoes 20 = .ok (.aload_n 0, 1) := by decide +kernel
theorem dX12_dayGoes_21 : decode cX12_dayGoes 21 = .ok (.iload_n 1, 1) := by decide +kernel
theorem dX12_dayGoes_22 : decode cX12_dayGoes 22 = .ok (.iload_n 2, 1) := by decide +kernel
theorem dX12_dayGoes_23 : decode cX12_dayGoes 23 = .ok (.invokevirtual 332, 3) := by decide +kernel
theorem dX12_dayGoes_26 : decode cX12_dayGoes 26 = .ok (.aload_n 0, 1) := by decide +kernel
theorem dX12_dayGoes_27 : decode cX12_dayGoes 27 = .ok (.iload_n 1, 1) := by decide +kernel
theorem dX12_dayGoes_28 : decode cX12_dayGoes 28 = .ok (.iload_n 2, 1) := by decide +kernel
theorem dX12_dayGoes_29 : decode cX12_dayGoes 29 = .ok (.invokevirtual 336, 3) := by decide +kernel
theorem dX12_dayGoes_32 : decode cX12_dayGoes 32 = .ok (.bipush 7, 2) := by decide +kernel
theorem dX12_dayGoes_34 : decode cX12_dayGoes 34 = .ok (.if_icmp .lt 7, 3) := by decide +kernel
theorem dX12_dayGoes_37 : decode cX12_dayGoes 37 = .ok (.iconst 1, 1) := by decide +kernel
theorem dX12_dayGoes_38 : decode cX12_dayGoes 38 = .ok (.goto 4, 3) := by decide +kernel
theorem dX12_dayGoes_41 : decode cX12_dayGoes 41 = .ok (.iconst 0, 1) := by decide +kernel
theorem dX12_dayGoes_42 : decode cX12_dayGoes 42 = .ok (.istore_n 3, 1) := by decide +kernel
theorem dX12_dayGoes_43 : decode cX12_dayGoes 43 = .ok (.aload_n 0, 1) := by decide +kernel
theorem dX12_dayGoes_44 : decode cX12_dayGoes 44 = .ok (.dup, 1) := by decide +kernel
theorem dX12_dayGoes_45 : decode cX12_dayGoes 45 = .ok (.getfield 329, 3) := by decide +kernel
theorem dX12_dayGoes_48 : decode cX12_dayGoes 48 = .ok (.iload_n 3, 1) := by decide +kernel
theorem dX12_dayGoes_49 : decode cX12_dayGoes 49 = .ok (.ifCond .eq 9, 3) := by decide +kernel
theorem dX12_dayGoes_52 : decode cX12_dayGoes 52 = .ok (.iconst 1, 1) := by decide +kernel
theorem dX12_dayGoes_53 : decode cX12_dayGoes 53 = .ok (.iload_n 2, 1) := by decide +kernel
theorem dX12_dayGoes_54 : decode cX12_dayGoes 54 = .ok (.ishl, 1) := by decide +kernel
theorem dX12_dayGoes_55 : decode cX12_dayGoes 55 = .ok (.goto 4, 3) := by decide +kernel
theorem dX12_dayGoes_58 : decode cX12_dayGoes 58 = .ok (.iconst 0, 1) := by decide +kernel
theorem dX12_dayGoes_59 : decode cX12_dayGoes 59 = .ok (.ior, 1) := by decide +kernel
theorem dX12_dayGoes_60 : decode cX12_dayGoes 60 = .ok (.putfield 329, 3) := by decide +kernel
theorem dX12_dayGoes_63 : decode cX12_dayGoes 63 = .ok (.aload_n 0, 1) := by decide +kernel
theorem dX12_dayGoes_64 : decode cX12_dayGoes 64 = .ok (.iload_n 1, 1) := by decide +kernel
theorem dX12_dayGoes_65 : decode cX12_dayGoes 65 = .ok (.iload_n 2, 1) := by decide +kernel
theorem dX12_dayGoes_66 : decode cX12_dayGoes 66 = .ok (.iload_n 3, 1) := by decide +kernel
theorem dX12_dayGoes_67 : decode cX12_dayGoes 67 = .ok (.invokevirtual 339, 3) := by decide +kernel
theorem dX12_dayGoes_70 : decode cX12_dayGoes 70 = .ok (.iinc 2 1, 3) := by decide +kernel
theorem dX12_dayGoes_73 : decode cX12_dayGoes 73 = .ok (.goto (-61), 3) := by decide +kernel
theorem dX12_dayGoes_76 : decode cX12_dayGoes 76 = .ok (.aload_n 0, 1) := by decide +kernel
theorem dX12_dayGoes_77 : decode cX12_dayGoes 77 = .ok (.getfield 75, 3) := by decide +kernel
theorem dX12_dayGoes_80 : decode cX12_dayGoes 80 = .ok (.iload_n 1, 1) := by decide +kernel
theorem dX12_dayGoes_81 : decode cX12_dayGoes 81 = .ok (.iconst 0, 1) := by decide +kernel
theorem dX12_dayGoes_82 : decode cX12_dayGoes 82 = .ok (.iadd, 1) := by decide +kernel
theorem dX12_dayGoes_83 : decode cX12_dayGoes 83 = .ok (.dup2, 1) := by decide +kernel
theorem dX12_dayGoes_84 : decode cX12_dayGoes 84 = .ok (.iaload, 1) := by decide +kernel
theorem dX12_dayGoes_85 : decode cX12_dayGoes 85 = .ok (.iconst 1, 1) := by decide +kernel
theorem dX12_dayGoes_86 : decode cX12_dayGoes 86 = .ok (.iadd, 1) := by decide +kernel
theorem dX12_dayGoes_87 : decode cX12_dayGoes 87 = .ok (.iastore, 1) := by decide +kernel
theorem dX12_dayGoes_88 : decode cX12_dayGoes 88 = .ok (.return_, 1) := by decide +kernel
theorem dX12_daysGo_0 : decode cX12_daysGo 0 = .ok (.iconst 0, 1) := by decide +kernel
theorem dX12_daysGo_1 : decode cX12_daysGo 1 = .ok (.istore_n 2, 1) := by decide +kernel
theorem dX12_daysGo_2 : decode cX12_daysGo 2 = .ok (.iload_n 2, 1) := by decide +kernel
theorem dX12_daysGo_3 : decode cX12_daysGo 3 = .ok (.iload_n 1, 1) := by decide +kernel
theorem dX12_daysGo_4 : decode cX12_daysGo 4 = .ok (.if_icmp .ge 15, 3) := by decide +kernel
theorem dX12_daysGo_7 : decode cX12_daysGo 7 = .ok (.aload_n 0, 1) := by decide +kernel
theorem dX12_daysGo_8 : decode cX12_daysGo 8 = .ok (.bipush 85, 2) := by decide +kernel
theorem dX12_daysGo_10 : decode cX12_daysGo 10 = .ok (.invokevirtual 343, 3) := by decide +kernel
theorem dX12_daysGo_13 : decode cX12_daysGo 13 = .ok (.iinc 2 1, 3) := by decide +kernel
theorem dX12_daysGo_16 : decode cX12_daysGo 16 = .ok (.goto (-14), 3) := by decide +kernel
theorem dX12_daysGo_19 : decode cX12_daysGo 19 = .ok (.return_, 1) := by decide +kernel
theorem dX12_allOf_0 : decode cX12_allOf 0 = .ok (.iconst 0, 1) := by decide +kernel
theorem dX12_allOf_1 : decode cX12_allOf 1 = .ok (.istore_n 2, 1) := by decide +kernel
theorem dX12_allOf_2 : decode cX12_allOf 2 = .ok (.iconst 0, 1) := by decide +kernel
theorem dX12_allOf_3 : decode cX12_allOf 3 = .ok (.istore_n 3, 1) := by decide +kernel
theorem dX12_allOf_4 : decode cX12_allOf 4 = .ok (.iload_n 3, 1) := by decide +kernel
theorem dX12_allOf_5 : decode cX12_allOf 5 = .ok (.aload_n 0, 1) := by decide +kernel
theorem dX12_allOf_6 : decode cX12_allOf 6 = .ok (.getfield 281, 3) := by decide +kernel
theorem dX12_allOf_9 : decode cX12_allOf 9 = .ok (.if_icmp .ge 20, 3) := by decide +kernel
theorem dX12_allOf_12 : decode cX12_allOf 12 = .ok (.iload_n 2, 1) := by decide +kernel
theorem dX12_allOf_13 : decode cX12_allOf 13 = .ok (.aload_n 0, 1) := by decide +kernel
theorem dX12_allOf_14 : decode cX12_allOf 14 = .ok (.getfield 75, 3) := by decide +kernel
theorem dX12_allOf_17 : decode cX12_allOf 17 = .ok (.iload_n 1, 1) := by decide +kernel
theorem dX12_allOf_18 : decode cX12_allOf 18 = .ok (.iload_n 3, 1) := by decide +kernel
theorem dX12_allOf_19 : decode cX12_allOf 19 = .ok (.iadd, 1) := by decide +kernel
theorem dX12_allOf_20 : decode cX12_allOf 20 = .ok (.iaload, 1) := by decide +kernel
theorem dX12_allOf_21 : decode cX12_allOf 21 = .ok (.iadd, 1) := by decide +kernel
theorem dX12_allOf_22 : decode cX12_allOf 22 = .ok (.istore_n 2, 1) := by decide +kernel
theorem dX12_allOf_23 : decode cX12_allOf 23 = .ok (.iinc 3 1, 3) := by decide +kernel
theorem dX12_allOf_26 : decode cX12_allOf 26 = .ok (.goto (-22), 3) := by decide +kernel
theorem dX12_allOf_29 : decode cX12_allOf 29 = .ok (.iload_n 2, 1) := by decide +kernel
theorem dX12_allOf_30 : decode cX12_allOf 30 = .ok (.ireturn, 1) := by decide +kernel
theorem dX12_lyingAll_0 : decode cX12_lyingAll 0 = .ok (.iconst 0, 1) := by decide +kernel
theorem dX12_lyingAll_1 : decode cX12_lyingAll 1 = .ok (.istore_n 1, 1) := by decide +kernel
theorem dX12_lyingAll_2 : decode cX12_lyingAll 2 = .ok (.iconst 0, 1) := by decide +kernel
theorem dX12_lyingAll_3 : decode cX12_lyingAll 3 = .ok (.istore_n 2, 1) := by decide +kernel
theorem dX12_lyingAll_4 : decode cX12_lyingAll 4 = .ok (.iload_n 2, 1) := by decide +kernel
theorem dX12_lyingAll_5 : decode cX12_lyingAll 5 = .ok (.aload_n 0, 1) := by decide +kernel
theorem dX12_lyingAll_6 : decode cX12_lyingAll 6 = .ok (.getfield 287, 3) := by decide +kernel
theorem dX12_lyingAll_9 : decode cX12_lyingAll 9 = .ok (.if_icmp .ge 28, 3) := by decide +kernel
theorem dX12_lyingAll_12 : decode cX12_lyingAll 12 = .ok (.iload_n 1, 1) := by decide +kernel
theorem dX12_lyingAll_13 : decode cX12_lyingAll 13 = .ok (.aload_n 0, 1) := by decide +kernel
theorem dX12_lyingAll_14 : decode cX12_lyingAll 14 = .ok (.iconst 0, 1) := by decide +kernel
theorem dX12_lyingAll_15 : decode cX12_lyingAll 15 = .ok (.iload_n 2, 1) := by decide +kernel
theorem dX12_lyingAll_16 : decode cX12_lyingAll 16 = .ok (.invokevirtual 308, 3) := by decide +kernel
theorem dX12_lyingAll_19 : decode cX12_lyingAll 19 = .ok (.ifCond .eq 9, 3) := by decide +kernel
theorem dX12_lyingAll_22 : decode cX12_lyingAll 22 = .ok (.iconst 1, 1) := by decide +kernel
theorem dX12_lyingAll_23 : decode cX12_lyingAll 23 = .ok (.iload_n 2, 1) := by decide +kernel
theorem dX12_lyingAll_24 : decode cX12_lyingAll 24 = .ok (.ishl, 1) := by decide +kernel
theorem dX12_lyingAll_25 : decode cX12_lyingAll 25 = .ok (.goto 4, 3) := by decide +kernel
theorem dX12_lyingAll_28 : decode cX12_lyingAll 28 = .ok (.iconst 0, 1) := by decide +kernel
theorem dX12_lyingAll_29 : decode cX12_lyingAll 29 = .ok (.ior, 1) := by decide +kernel
theorem dX12_lyingAll_30 : decode cX12_lyingAll 30 = .ok (.istore_n 1, 1) := by decide +kernel
theorem dX12_lyingAll_31 : decode cX12_lyingAll 31 = .ok (.iinc 2 1, 3) := by decide +kernel
theorem dX12_lyingAll_34 : decode cX12_lyingAll 34 = .ok (.goto (-30), 3) := by decide +kernel
theorem dX12_lyingAll_37 : decode cX12_lyingAll 37 = .ok (.iload_n 1, 1) := by decide +kernel
theorem dX12_lyingAll_38 : decode cX12_lyingAll 38 = .ok (.ireturn, 1) := by decide +kernel
theorem dX12_goingAll_0 : decode cX12_goingAll 0 = .ok (.iconst 0, 1) := by decide +kernel
theorem dX12_goingAll_1 : decode cX12_goingAll 1 = .ok (.istore_n 1, 1) := by decide +kernel
theorem dX12_goingAll_2 : decode cX12_goingAll 2 = .ok (.iconst 0, 1) := by decide +kernel
theorem dX12_goingAll_3 : decode cX12_goingAll 3 = .ok (.istore_n 2, 1) := by decide +kernel
theorem dX12_goingAll_4 : decode cX12_goingAll 4 = .ok (.iload_n 2, 1) := by decide +kernel
theorem dX12_goingAll_5 : decode cX12_goingAll 5 = .ok (.aload_n 0, 1) := by decide +kernel
theorem dX12_goingAll_6 : decode cX12_goingAll 6 = .ok (.getfield 287, 3) := by decide +kernel
theorem dX12_goingAll_9 : decode cX12_goingAll 9 = .ok (.if_icmp .ge 31, 3) := by decide +kernel
theorem dX12_goingAll_12 : decode cX12_goingAll 12 = .ok (.iload_n 1, 1) := by decide +kernel
theorem dX12_goingAll_13 : decode cX12_goingAll 13 = .ok (.aload_n 0, 1) := by decide +kernel
theorem dX12_goingAll_14 : decode cX12_goingAll 14 = .ok (.getfield 75, 3) := by decide +kernel
theorem dX12_goingAll_17 : decode cX12_goingAll 17 = .ok (.bipush 65, 2) := by decide +kernel
theorem dX12_goingAll_19 : decode cX12_goingAll 19 = .ok (.iload_n 2, 1) := by decide +kernel
theorem dX12_goingAll_20 : decode cX12_goingAll 20 = .ok (.iadd, 1) := by decide +kernel
theorem dX12_goingAll_21 : decode cX12_goingAll 21 = .ok (.iaload, 1) := by decide +kernel
theorem dX12_goingAll_22 : decode cX12_goingAll 22 = .ok (.ifCond .le 9, 3) := by decide +kernel
theorem dX12_goingAll_25 : decode cX12_goingAll 25 = .ok (.iconst 1, 1) := by decide +kernel
theorem dX12_goingAll_26 : decode cX12_goingAll 26 = .ok (.iload_n 2, 1) := by decide +kernel
theorem dX12_goingAll_27 : decode cX12_goingAll 27 = .ok (.ishl, 1) := by decide +kernel
theorem dX12_goingAll_28 : decode cX12_goingAll 28 = .ok (.goto 4, 3) := by decide +kernel
theorem dX12_goingAll_31 : decode cX12_goingAll 31 = .ok (.iconst 0, 1) := by decide +kernel
theorem dX12_goingAll_32 : decode cX12_goingAll 32 = .ok (.ior, 1) := by decide +kernel
theorem dX12_goingAll_33 : decode cX12_goingAll 33 = .ok (.istore_n 1, 1) := by decide +kernel
theorem dX12_goingAll_34 : decode cX12_goingAll 34 = .ok (.iinc 2 1, 3) := by decide +kernel
theorem dX12_goingAll_37 : decode cX12_goingAll 37 = .ok (.goto (-33), 3) := by decide +kernel
theorem dX12_goingAll_40 : decode cX12_goingAll 40 = .ok (.iload_n 1, 1) := by decide +kernel
theorem dX12_goingAll_41 : decode cX12_goingAll 41 = .ok (.ireturn, 1) := by decide +kernel
theorem dX12_goneIn_0 : decode cX12_goneIn 0 = .ok (.iconst 0, 1) := by decide +kernel
theorem dX12_goneIn_1 : decode cX12_goneIn 1 = .ok (.istore_n 2, 1) := by decide +kernel
theorem dX12_goneIn_2 : decode cX12_goneIn 2 = .ok (.iconst 0, 1) := by decide +kernel
theorem dX12_goneIn_3 : decode cX12_goneIn 3 = .ok (.istore_n 3, 1) := by decide +kernel
theorem dX12_goneIn_4 : decode cX12_goneIn 4 = .ok (.iload_n 3, 1) := by decide +kernel
theorem dX12_goneIn_5 : decode cX12_goneIn 5 = .ok (.aload_n 0, 1) := by decide +kernel
theorem dX12_goneIn_6 : decode cX12_goneIn 6 = .ok (.getfield 287, 3) := by decide +kernel
theorem dX12_goneIn_9 : decode cX12_goneIn 9 = .ok (.if_icmp .ge 34, 3) := by decide +kernel
theorem dX12_goneIn_12 : decode cX12_goneIn 12 = .ok (.iload_n 2, 1) := by decide +kernel
theorem dX12_goneIn_13 : decode cX12_goneIn 13 = .ok (.aload_n 0, 1) := by decide +kernel
theorem dX12_goneIn_14 : decode cX12_goneIn 14 = .ok (.getfield 75, 3) := by decide +kernel
theorem dX12_goneIn_17 : decode cX12_goneIn 17 = .ok (.iload_n 1, 1) := by decide +kernel
theorem dX12_goneIn_18 : decode cX12_goneIn 18 = .ok (.bipush 55, 2) := by decide +kernel
theorem dX12_goneIn_20 : decode cX12_goneIn 20 = .ok (.iadd, 1) := by decide +kernel
theorem dX12_goneIn_21 : decode cX12_goneIn 21 = .ok (.iload_n 3, 1) := by decide +kernel
theorem dX12_goneIn_22 : decode cX12_goneIn 22 = .ok (.iadd, 1) := by decide +kernel
theorem dX12_goneIn_23 : decode cX12_goneIn 23 = .ok (.iaload, 1) := by decide +kernel
theorem dX12_goneIn_24 : decode cX12_goneIn 24 = .ok (.iconst (-1), 1) := by decide +kernel
theorem dX12_goneIn_25 : decode cX12_goneIn 25 = .ok (.if_icmp .ne 9, 3) := by decide +kernel
theorem dX12_goneIn_28 : decode cX12_goneIn 28 = .ok (.iconst 1, 1) := by decide +kernel
theorem dX12_goneIn_29 : decode cX12_goneIn 29 = .ok (.iload_n 3, 1) := by decide +kernel
theorem dX12_goneIn_30 : decode cX12_goneIn 30 = .ok (.ishl, 1) := by decide +kernel
theorem dX12_goneIn_31 : decode cX12_goneIn 31 = .ok (.goto 4, 3) := by decide +kernel
theorem dX12_goneIn_34 : decode cX12_goneIn 34 = .ok (.iconst 0, 1) := by decide +kernel
theorem dX12_goneIn_35 : decode cX12_goneIn 35 = .ok (.ior, 1) := by decide +kernel
theorem dX12_goneIn_36 : decode cX12_goneIn 36 = .ok (.istore_n 2, 1) := by decide +kernel
theorem dX12_goneIn_37 : decode cX12_goneIn 37 = .ok (.iinc 3 1, 3) := by decide +kernel
theorem dX12_goneIn_40 : decode cX12_goneIn 40 = .ok (.goto (-36), 3) := by decide +kernel
theorem dX12_goneIn_43 : decode cX12_goneIn 43 = .ok (.iload_n 2, 1) := by decide +kernel
theorem dX12_goneIn_44 : decode cX12_goneIn 44 = .ok (.ireturn, 1) := by decide +kernel
theorem dX12_count_0 : decode cX12_count 0 = .ok (.aload_n 0, 1) := by decide +kernel
theorem dX12_count_1 : decode cX12_count 1 = .ok (.iconst 0, 1) := by decide +kernel
theorem dX12_count_2 : decode cX12_count 2 = .ok (.putfield 117, 3) := by decide +kernel
theorem dX12_count_5 : decode cX12_count 5 = .ok (.aload_n 0, 1) := by decide +kernel
theorem dX12_count_6 : decode cX12_count 6 = .ok (.iload_n 1, 1) := by decide +kernel
theorem dX12_count_7 : decode cX12_count 7 = .ok (.iconst 0, 1) := by decide +kernel
theorem dX12_count_8 : decode cX12_count 8 = .ok (.bipush 15, 2) := by decide +kernel
theorem dX12_count_10 : decode cX12_count 10 = .ok (.invokestatic 346, 3) := by decide +kernel
theorem dX12_count_13 : decode cX12_count 13 = .ok (.iconst 1, 1) := by decide +kernel
theorem dX12_count_14 : decode cX12_count 14 = .ok (.invokevirtual 274, 3) := by decide +kernel
theorem dX12_count_17 : decode cX12_count 17 = .ok (.ifCond .ne 5, 3) := by decide +kernel
theorem dX12_count_20 : decode cX12_count 20 = .ok (.iconst 0, 1) := by decide +kernel
theorem dX12_count_21 : decode cX12_count 21 = .ok (.ireturn, 1) := by decide +kernel
theorem dX12_count_22 : decode cX12_count 22 = .ok (.iload_n 1, 1) := by decide +kernel
theorem dX12_count_23 : decode cX12_count 23 = .ok (.tableswitch 138 0 12 #[65, 70, 75, 80, 87, 93, 100, 107, 112, 117, 123, 128, 133], 65) := by decide +kernel
theorem dX12_count_88 : decode cX12_count 88 = .ok (.aload_n 0, 1) := by decide +kernel
theorem dX12_count_89 : decode cX12_count 89 = .ok (.getfield 281, 3) := by decide +kernel
theorem dX12_count_92 : decode cX12_count 92 = .ok (.ireturn, 1) := by decide +kernel
theorem dX12_count_93 : decode cX12_count 93 = .ok (.aload_n 0, 1) := by decide +kernel
theorem dX12_count_94 : decode cX12_count 94 = .ok (.getfield 284, 3) := by decide +kernel
theorem dX12_count_97 : decode cX12_count 97 = .ok (.ireturn, 1) := by decide +kernel
theorem dX12_count_98 : decode cX12_count 98 = .ok (.aload_n 0, 1) := by decide +kernel
theorem dX12_count_99 : decode cX12_count 99 = .ok (.getfield 287, 3) := by decide +kernel
theorem dX12_count_102 : decode cX12_count 102 = .ok (.ireturn, 1) := by decide +kernel
theorem dX12_count_103 : decode cX12_count 103 = .ok (.aload_n 0, 1) := by decide +kernel
theorem dX12_count_104 : decode cX12_count 104 = .ok (.getfield 75, 3) := by decide +kernel
theorem dX12_count_107 : decode cX12_count 107 = .ok (.iconst 0, 1) := by decide +kernel
theorem dX12_count_108 : decode cX12_count 108 = .ok (.iaload, 1) := by decide +kernel
theorem dX12_count_109 : decode cX12_count 109 = .ok (.ireturn, 1) := by decide +kernel
theorem dX12_count_110 : decode cX12_count 110 = .ok (.aload_n 0, 1) := by decide +kernel
theorem dX12_count_111 : decode cX12_count 111 = .ok (.iconst 1, 1) := by decide +kernel
theorem dX12_count_112 : decode cX12_count 112 = .ok (.invokevirtual 350, 3) := by decide +kernel
theorem dX12_count_115 : decode cX12_count 115 = .ok (.ireturn, 1) := by decide +kernel
theorem dX12_count_116 : decode cX12_count 116 = .ok (.aload_n 0, 1) := by decide +kernel
theorem dX12_count_117 : decode cX12_count 117 = .ok (.bipush 9, 2) := by decide +kernel
theorem dX12_count_119 : decode cX12_count 119 = .ok (.invokevirtual 350, 3) := by decide +kernel
theorem dX12_count_122 : decode cX12_count 122 = .ok (.ireturn, 1) := by decide +kernel
theorem dX12_count_123 : decode cX12_count 123 = .ok (.aload_n 0, 1) := by decide +kernel
theorem dX12_count_124 : decode cX12_count 124 = .ok (.bipush 17, 2) := by decide +kernel
theorem dX12_count_126 : decode cX12_count 126 = .ok (.invokevirtual 350, 3) := by decide +kernel
theorem dX12_count_129 : decode cX12_count 129 = .ok (.ireturn, 1) := by decide +kernel
theorem dX12_count_130 : decode cX12_count 130 = .ok (.aload_n 0, 1) := by decide +kernel
theorem dX12_count_131 : decode cX12_count 131 = .ok (.invokevirtual 353, 3) := by decide +kernel
theorem dX12_count_134 : decode cX12_count 134 = .ok (.ireturn, 1) := by decide +kernel
theorem dX12_count_135 : decode cX12_count 135 = .ok (.aload_n 0, 1) := by decide +kernel
theorem dX12_count_136 : decode cX12_count 136 = .ok (.invokevirtual 356, 3) := by decide +kernel
theorem dX12_count_139 : decode cX12_count 139 = .ok (.ireturn, 1) := by decide +kernel
theorem dX12_count_140 : decode cX12_count 140 = .ok (.aload_n 0, 1) := by decide +kernel
theorem dX12_count_141 : decode cX12_count 141 = .ok (.iconst 0, 1) := by decide +kernel
theorem dX12_count_142 : decode cX12_count 142 = .ok (.invokevirtual 359, 3) := by decide +kernel
theorem dX12_count_145 : decode cX12_count 145 = .ok (.ireturn, 1) := by decide +kernel
theorem dX12_count_146 : decode cX12_count 146 = .ok (.aload_n 0, 1) := by decide +kernel
theorem dX12_count_147 : decode cX12_count 147 = .ok (.getfield 294, 3) := by decide +kernel
theorem dX12_count_150 : decode cX12_count 150 = .ok (.ireturn, 1) := by decide +kernel
theorem dX12_count_151 : decode cX12_count 151 = .ok (.aload_n 0, 1) := by decide +kernel
theorem dX12_count_152 : decode cX12_count 152 = .ok (.getfield 297, 3) := by decide +kernel
theorem dX12_count_155 : decode cX12_count 155 = .ok (.ireturn, 1) := by decide +kernel
theorem dX12_count_156 : decode cX12_count 156 = .ok (.aload_n 0, 1) := by decide +kernel
theorem dX12_count_157 : decode cX12_count 157 = .ok (.getfield 120, 3) := by decide +kernel
theorem dX12_count_160 : decode cX12_count 160 = .ok (.ireturn, 1) := by decide +kernel
theorem dX12_count_161 : decode cX12_count 161 = .ok (.aload_n 0, 1) := by decide +kernel
theorem dX12_count_162 : decode cX12_count 162 = .ok (.getfield 41, 3) := by decide +kernel
theorem dX12_count_165 : decode cX12_count 165 = .ok (.iload_n 1, 1) := by decide +kernel
theorem dX12_count_166 : decode cX12_count 166 = .ok (.bipush 13, 2) := by decide +kernel
theorem dX12_count_168 : decode cX12_count 168 = .ok (.isub, 1) := by decide +kernel
theorem dX12_count_169 : decode cX12_count 169 = .ok (.iaload, 1) := by decide +kernel
theorem dX12_count_170 : decode cX12_count 170 = .ok (.ireturn, 1) := by decide +kernel
theorem dX12_isTown_0 : decode cX12_isTown 0 = .ok (.aload_n 0, 1) := by decide +kernel
theorem dX12_isTown_1 : decode cX12_isTown 1 = .ok (.iload_n 1, 1) := by decide +kernel
theorem dX12_isTown_2 : decode cX12_isTown 2 = .ok (.ifCond .lt 15, 3) := by decide +kernel
theorem dX12_isTown_5 : decode cX12_isTown 5 = .ok (.iload_n 1, 1) := by decide +kernel
theorem dX12_isTown_6 : decode cX12_isTown 6 = .ok (.aload_n 0, 1) := by decide +kernel
theorem dX12_isTown_7 : decode cX12_isTown 7 = .ok (.getfield 281, 3) := by decide +kernel
theorem dX12_isTown_10 : decode cX12_isTown 10 = .ok (.if_icmp .ge 7, 3) := by decide +kernel
theorem dX12_isTown_13 : decode cX12_isTown 13 = .ok (.iconst 1, 1) := by decide +kernel
theorem dX12_isTown_14 : decode cX12_isTown 14 = .ok (.goto 4, 3) := by decide +kernel
theorem dX12_isTown_17 : decode cX12_isTown 17 = .ok (.iconst 0, 1) := by decide +kernel
theorem dX12_isTown_18 : decode cX12_isTown 18 = .ok (.iconst 1, 1) := by decide +kernel
theorem dX12_isTown_19 : decode cX12_isTown 19 = .ok (.invokevirtual 274, 3) := by decide +kernel
theorem dX12_isTown_22 : decode cX12_isTown 22 = .ok (.ireturn, 1) := by decide +kernel
theorem dX12_isCrate_0 : decode cX12_isCrate 0 = .ok (.aload_n 0, 1) := by decide +kernel
theorem dX12_isCrate_1 : decode cX12_isCrate 1 = .ok (.iload_n 1, 1) := by decide +kernel
theorem dX12_isCrate_2 : decode cX12_isCrate 2 = .ok (.ifCond .lt 15, 3) := by decide +kernel
theorem dX12_isCrate_5 : decode cX12_isCrate 5 = .ok (.iload_n 1, 1) := by decide +kernel
theorem dX12_isCrate_6 : decode cX12_isCrate 6 = .ok (.aload_n 0, 1) := by decide +kernel
theorem dX12_isCrate_7 : decode cX12_isCrate 7 = .ok (.getfield 287, 3) := by decide +kernel
theorem dX12_isCrate_10 : decode cX12_isCrate 10 = .ok (.if_icmp .ge 7, 3) := by decide +kernel
theorem dX12_isCrate_13 : decode cX12_isCrate 13 = .ok (.iconst 1, 1) := by decide +kernel
theorem dX12_isCrate_14 : decode cX12_isCrate 14 = .ok (.goto 4, 3) := by decide +kernel
theorem dX12_isCrate_17 : decode cX12_isCrate 17 = .ok (.iconst 0, 1) := by decide +kernel
theorem dX12_isCrate_18 : decode cX12_isCrate 18 = .ok (.iconst 1, 1) := by decide +kernel
theorem dX12_isCrate_19 : decode cX12_isCrate 19 = .ok (.invokevirtual 274, 3) := by decide +kernel
theorem dX12_isCrate_22 : decode cX12_isCrate 22 = .ok (.ireturn, 1) := by decide +kernel
theorem dX12_isWay_0 : decode cX12_isWay 0 = .ok (.aload_n 0, 1) := by decide +kernel
theorem dX12_isWay_1 : decode cX12_isWay 1 = .ok (.iload_n 1, 1) := by decide +kernel
theorem dX12_isWay_2 : decode cX12_isWay 2 = .ok (.ifCond .lt 15, 3) := by decide +kernel
theorem dX12_isWay_5 : decode cX12_isWay 5 = .ok (.iload_n 1, 1) := by decide +kernel
theorem dX12_isWay_6 : decode cX12_isWay 6 = .ok (.aload_n 0, 1) := by decide +kernel
theorem dX12_isWay_7 : decode cX12_isWay 7 = .ok (.getfield 284, 3) := by decide +kernel
theorem dX12_isWay_10 : decode cX12_isWay 10 = .ok (.if_icmp .ge 7, 3) := by decide +kernel
theorem dX12_isWay_13 : decode cX12_isWay 13 = .ok (.iconst 1, 1) := by decide +kernel
theorem dX12_isWay_14 : decode cX12_isWay 14 = .ok (.goto 4, 3) := by decide +kernel
theorem dX12_isWay_17 : decode cX12_isWay 17 = .ok (.iconst 0, 1) := by decide +kernel
theorem dX12_isWay_18 : decode cX12_isWay 18 = .ok (.iconst 1, 1) := by decide +kernel
theorem dX12_isWay_19 : decode cX12_isWay 19 = .ok (.invokevirtual 274, 3) := by decide +kernel
theorem dX12_isWay_22 : decode cX12_isWay 22 = .ok (.ireturn, 1) := by decide +kernel
theorem dX12_isWhat_0 : decode cX12_isWhat 0 = .ok (.aload_n 0, 1) := by decide +kernel
theorem dX12_isWhat_1 : decode cX12_isWhat 1 = .ok (.iload_n 1, 1) := by decide +kernel
theorem dX12_isWhat_2 : decode cX12_isWhat 2 = .ok (.iconst 0, 1) := by decide +kernel
theorem dX12_isWhat_3 : decode cX12_isWhat 3 = .ok (.iload_n 2, 1) := by decide +kernel
theorem dX12_isWhat_4 : decode cX12_isWhat 4 = .ok (.invokestatic 346, 3) := by decide +kernel
theorem dX12_isWhat_7 : decode cX12_isWhat 7 = .ok (.iconst 1, 1) := by decide +kernel
theorem dX12_isWhat_8 : decode cX12_isWhat 8 = .ok (.invokevirtual 274, 3) := by decide +kernel
theorem dX12_isWhat_11 : decode cX12_isWhat 11 = .ok (.ireturn, 1) := by decide +kernel
theorem dX12_town_0 : decode cX12_town 0 = .ok (.aload_n 0, 1) := by decide +kernel
theorem dX12_town_1 : decode cX12_town 1 = .ok (.iconst 0, 1) := by decide +kernel
theorem dX12_town_2 : decode cX12_town 2 = .ok (.putfield 117, 3) := by decide +kernel
theorem dX12_town_5 : decode cX12_town 5 = .ok (.aload_n 0, 1) := by decide +kernel
theorem dX12_town_6 : decode cX12_town 6 = .ok (.iload_n 1, 1) := by decide +kernel
theorem dX12_town_7 : decode cX12_town 7 = .ok (.invokevirtual 362, 3) := by decide +kernel
theorem dX12_town_10 : decode cX12_town 10 = .ok (.ifCond .eq 13, 3) := by decide +kernel
theorem dX12_town_13 : decode cX12_town 13 = .ok (.aload_n 0, 1) := by decide +kernel
theorem dX12_town_14 : decode cX12_town 14 = .ok (.iload_n 2, 1) := by decide +kernel
theorem dX12_town_15 : decode cX12_town 15 = .ok (.bipush 6, 2) := by decide +kernel
theorem dX12_town_17 : decode cX12_town 17 = .ok (.invokevirtual 365, 3) := by decide +kernel
theorem dX12_town_20 : decode cX12_town 20 = .ok (.ifCond .ne 5, 3) := by decide +kernel
theorem dX12_town_23 : decode cX12_town 23 = .ok (.iconst 0, 1) := by decide +kernel
theorem dX12_town_24 : decode cX12_town 24 = .ok (.ireturn, 1) := by decide +kernel
theorem dX12_town_25 : decode cX12_town 25 = .ok (.iload_n 2, 1) := by decide +kernel
theorem dX12_town_26 : decode cX12_town 26 = .ok (.tableswitch 88 0 5 #[38, 47, 57, 64, 71, 81], 38) := by decide +kernel
theorem dX12_town_64 : decode cX12_town 64 = .ok (.aload_n 0, 1) := by decide +kernel
theorem dX12_town_65 : decode cX12_town 65 = .ok (.getfield 75, 3) := by decide +kernel
theorem dX12_town_68 : decode cX12_town 68 = .ok (.iconst 1, 1) := by decide +kernel
theorem dX12_town_69 : decode cX12_town 69 = .ok (.iload_n 1, 1) := by decide +kernel
theorem dX12_town_70 : decode cX12_town 70 = .ok (.iadd, 1) := by decide +kernel
theorem dX12_town_71 : decode cX12_town 71 = .ok (.iaload, 1) := by decide +kernel
theorem dX12_town_72 : decode cX12_town 72 = .ok (.ireturn, 1) := by decide +kernel
theorem dX12_town_73 : decode cX12_town 73 = .ok (.aload_n 0, 1) := by decide +kernel
theorem dX12_town_74 : decode cX12_town 74 = .ok (.getfield 75, 3) := by decide +kernel
theorem dX12_town_77 : decode cX12_town 77 = .ok (.bipush 9, 2) := by decide +kernel
theorem dX12_town_79 : decode cX12_town 79 = .ok (.iload_n 1, 1) := by decide +kernel
theorem dX12_town_80 : decode cX12_town 80 = .ok (.iadd, 1) := by decide +kernel
theorem dX12_town_81 : decode cX12_town 81 = .ok (.iaload, 1) := by decide +kernel
theorem dX12_town_82 : decode cX12_town 82 = .ok (.ireturn, 1) := by decide +kernel
theorem dX12_town_83 : decode cX12_town 83 = .ok (.aload_n 0, 1) := by decide +kernel
theorem dX12_town_84 : decode cX12_town 84 = .ok (.getfield 13, 3) := by decide +kernel
theorem dX12_town_87 : decode cX12_town 87 = .ok (.iload_n 1, 1) := by decide +kernel
theorem dX12_town_88 : decode cX12_town 88 = .ok (.iaload, 1) := by decide +kernel
theorem dX12_town_89 : decode cX12_town 89 = .ok (.ireturn, 1) := by decide +kernel
theorem dX12_town_90 : decode cX12_town 90 = .ok (.aload_n 0, 1) := by decide +kernel
theorem dX12_town_91 : decode cX12_town 91 = .ok (.getfield 17, 3) := by decide +kernel
theorem dX12_town_94 : decode cX12_town 94 = .ok (.iload_n 1, 1) := by decide +kernel
theorem dX12_town_95 : decode cX12_town 95 = .ok (.iaload, 1) := by decide +kernel
theorem dX12_town_96 : decode cX12_town 96 = .ok (.ireturn, 1) := by decide +kernel
theorem dX12_town_97 : decode cX12_town 97 = .ok (.aload_n 0, 1) := by decide +kernel
theorem dX12_town_98 : decode cX12_town 98 = .ok (.getfield 75, 3) := by decide +kernel
theorem dX12_town_101 : decode cX12_town 101 = .ok (.bipush 17, 2) := by decide +kernel
theorem dX12_town_103 : decode cX12_town 103 = .ok (.iload_n 1, 1) := by decide +kernel
theorem dX12_town_104 : decode cX12_town 104 = .ok (.iadd, 1) := by decide +kernel
theorem dX12_town_105 : decode cX12_town 105 = .ok (.iaload, 1) := by decide +kernel
theorem dX12_town_106 : decode cX12_town 106 = .ok (.ireturn, 1) := by decide +kernel
theorem dX12_town_107 : decode cX12_town 107 = .ok (.aload_n 0, 1) := by decide +kernel
theorem dX12_town_108 : decode cX12_town 108 = .ok (.iconst 0, 1) := by decide +kernel
theorem dX12_town_109 : decode cX12_town 109 = .ok (.iload_n 1, 1) := by decide +kernel
theorem dX12_town_110 : decode cX12_town 110 = .ok (.invokevirtual 336, 3) := by decide +kernel
theorem dX12_town_113 : decode cX12_town 113 = .ok (.ireturn, 1) := by decide +kernel
theorem dX12_town_114 : decode cX12_town 114 = .ok (.aload_n 0, 1) := by decide +kernel
theorem dX12_town_115 : decode cX12_town 115 = .ok (.iconst 0, 1) := by decide +kernel
theorem dX12_town_116 : decode cX12_town 116 = .ok (.iload_n 1, 1) := by decide +kernel
theorem dX12_town_117 : decode cX12_town 117 = .ok (.invokevirtual 314, 3) := by decide +kernel
theorem dX12_town_120 : decode cX12_town 120 = .ok (.ireturn, 1) := by decide +kernel
theorem dX12_crate_0 : decode cX12_crate 0 = .ok (.aload_n 0, 1) := by decide +kernel
theorem dX12_crate_1 : decode cX12_crate 1 = .ok (.iconst 0, 1) := by decide +kernel
theorem dX12_crate_2 : decode cX12_crate 2 = .ok (.putfield 117, 3) := by decide +kernel
theorem dX12_crate_5 : decode cX12_crate 5 = .ok (.aload_n 0, 1) := by decide +kernel
theorem dX12_crate_6 : decode cX12_crate 6 = .ok (.iload_n 1, 1) := by decide +kernel
theorem dX12_crate_7 : decode cX12_crate 7 = .ok (.invokevirtual 368, 3) := by decide +kernel
theorem dX12_crate_10 : decode cX12_crate 10 = .ok (.ifCond .eq 12, 3) := by decide +kernel
theorem dX12_crate_13 : decode cX12_crate 13 = .ok (.aload_n 0, 1) := by decide +kernel
theorem dX12_crate_14 : decode cX12_crate 14 = .ok (.iload_n 2, 1) := by decide +kernel
theorem dX12_crate_15 : decode cX12_crate 15 = .ok (.iconst 4, 1) := by decide +kernel
theorem dX12_crate_16 : decode cX12_crate 16 = .ok (.invokevirtual 365, 3) := by decide +kernel
theorem dX12_crate_19 : decode cX12_crate 19 = .ok (.ifCond .ne 5, 3) := by decide +kernel
theorem dX12_crate_22 : decode cX12_crate 22 = .ok (.iconst 0, 1) := by decide +kernel
theorem dX12_crate_23 : decode cX12_crate 23 = .ok (.ireturn, 1) := by decide +kernel
theorem dX12_crate_24 : decode cX12_crate 24 = .ok (.iload_n 2, 1) := by decide +kernel
theorem dX12_crate_25 : decode cX12_crate 25 = .ok (.tableswitch 71 0 3 #[31, 41, 51, 61], 31) := by decide +kernel
theorem dX12_crate_56 : decode cX12_crate 56 = .ok (.aload_n 0, 1) := by decide +kernel
theorem dX12_crate_57 : decode cX12_crate 57 = .ok (.getfield 75, 3) := by decide +kernel
theorem dX12_crate_60 : decode cX12_crate 60 = .ok (.bipush 25, 2) := by decide +kernel
theorem dX12_crate_62 : decode cX12_crate 62 = .ok (.iload_n 1, 1) := by decide +kernel
theorem dX12_crate_63 : decode cX12_crate 63 = .ok (.iadd, 1) := by decide +kernel
theorem dX12_crate_64 : decode cX12_crate 64 = .ok (.iaload, 1) := by decide +kernel
theorem dX12_crate_65 : decode cX12_crate 65 = .ok (.ireturn, 1) := by decide +kernel
theorem dX12_crate_66 : decode cX12_crate 66 = .ok (.aload_n 0, 1) := by decide +kernel
theorem dX12_crate_67 : decode cX12_crate 67 = .ok (.getfield 75, 3) := by decide +kernel
theorem dX12_crate_70 : decode cX12_crate 70 = .ok (.bipush 35, 2) := by decide +kernel
theorem dX12_crate_72 : decode cX12_crate 72 = .ok (.iload_n 1, 1) := by decide +kernel
theorem dX12_crate_73 : decode cX12_crate 73 = .ok (.iadd, 1) := by decide +kernel
theorem dX12_crate_74 : decode cX12_crate 74 = .ok (.iaload, 1) := by decide +kernel
theorem dX12_crate_75 : decode cX12_crate 75 = .ok (.ireturn, 1) := by decide +kernel
theorem dX12_crate_76 : decode cX12_crate 76 = .ok (.aload_n 0, 1) := by decide +kernel
theorem dX12_crate_77 : decode cX12_crate 77 = .ok (.getfield 75, 3) := by decide +kernel
theorem dX12_crate_80 : decode cX12_crate 80 = .ok (.bipush 45, 2) := by decide +kernel
theorem dX12_crate_82 : decode cX12_crate 82 = .ok (.iload_n 1, 1) := by decide +kernel
theorem dX12_crate_83 : decode cX12_crate 83 = .ok (.iadd, 1) := by decide +kernel
theorem dX12_crate_84 : decode cX12_crate 84 = .ok (.iaload, 1) := by decide +kernel
theorem dX12_crate_85 : decode cX12_crate 85 = .ok (.ireturn, 1) := by decide +kernel
theorem dX12_crate_86 : decode cX12_crate 86 = .ok (.aload_n 0, 1) := by decide +kernel
theorem dX12_crate_87 : decode cX12_crate 87 = .ok (.getfield 75, 3) := by decide +kernel
theorem dX12_crate_90 : decode cX12_crate 90 = .ok (.bipush 55, 2) := by decide +kernel
theorem dX12_crate_92 : decode cX12_crate 92 = .ok (.iload_n 1, 1) := by decide +kernel
theorem dX12_crate_93 : decode cX12_crate 93 = .ok (.iadd, 1) := by decide +kernel
theorem dX12_crate_94 : decode cX12_crate 94 = .ok (.iaload, 1) := by decide +kernel
theorem dX12_crate_95 : decode cX12_crate 95 = .ok (.ireturn, 1) := by decide +kernel
theorem dX12_crate_96 : decode cX12_crate 96 = .ok (.aload_n 0, 1) := by decide +kernel
theorem dX12_crate_97 : decode cX12_crate 97 = .ok (.getfield 75, 3) := by decide +kernel
theorem dX12_crate_100 : decode cX12_crate 100 = .ok (.bipush 65, 2) := by decide +kernel
theorem dX12_crate_102 : decode cX12_crate 102 = .ok (.iload_n 1, 1) := by decide +kernel
theorem dX12_crate_103 : decode cX12_crate 103 = .ok (.iadd, 1) := by decide +kernel
theorem dX12_crate_104 : decode cX12_crate 104 = .ok (.iaload, 1) := by decide +kernel
theorem dX12_crate_105 : decode cX12_crate 105 = .ok (.ireturn, 1) := by decide +kernel
theorem dX12_days_0 : decode cX12_days 0 = .ok (.aload_n 0, 1) := by decide +kernel
theorem dX12_days_1 : decode cX12_days 1 = .ok (.iconst 0, 1) := by decide +kernel
theorem dX12_days_2 : decode cX12_days 2 = .ok (.putfield 117, 3) := by decide +kernel
theorem dX12_days_5 : decode cX12_days 5 = .ok (.iload_n 1, 1) := by decide +kernel
theorem dX12_days_6 : decode cX12_days 6 = .ok (.iconst 1, 1) := by decide +kernel
theorem dX12_days_7 : decode cX12_days 7 = .ok (.bipush 30, 2) := by decide +kernel
theorem dX12_days_9 : decode cX12_days 9 = .ok (.invokestatic 346, 3) := by decide +kernel
theorem dX12_days_12 : decode cX12_days 12 = .ok (.ifCond .eq 17, 3) := by decide +kernel
theorem dX12_days_15 : decode cX12_days 15 = .ok (.aload_n 0, 1) := by decide +kernel
theorem dX12_days_16 : decode cX12_days 16 = .ok (.getfield 75, 3) := by decide +kernel
theorem dX12_days_19 : decode cX12_days 19 = .ok (.iconst 0, 1) := by decide +kernel
theorem dX12_days_20 : decode cX12_days 20 = .ok (.iaload, 1) := by decide +kernel
theorem dX12_days_21 : decode cX12_days 21 = .ok (.iload_n 1, 1) := by decide +kernel
theorem dX12_days_22 : decode cX12_days 22 = .ok (.iadd, 1) := by decide +kernel
theorem dX12_days_23 : decode cX12_days 23 = .ok (.sipush 999, 3) := by decide +kernel
theorem dX12_days_26 : decode cX12_days 26 = .ok (.if_icmp .le 9, 3) := by decide +kernel
theorem dX12_days_29 : decode cX12_days 29 = .ok (.aload_n 0, 1) := by decide +kernel
theorem dX12_days_30 : decode cX12_days 30 = .ok (.iconst 1, 1) := by decide +kernel
theorem dX12_days_31 : decode cX12_days 31 = .ok (.invokevirtual 371, 3) := by decide +kernel
theorem dX12_days_34 : decode cX12_days 34 = .ok (.ireturn, 1) := by decide +kernel
theorem dX12_days_35 : decode cX12_days 35 = .ok (.aload_n 0, 1) := by decide +kernel
theorem dX12_days_36 : decode cX12_days 36 = .ok (.invokevirtual 374, 3) := by decide +kernel
theorem dX12_days_39 : decode cX12_days 39 = .ok (.iconst 0, 1) := by decide +kernel
theorem dX12_days_40 : decode cX12_days 40 = .ok (.istore_n 2, 1) := by decide +kernel
theorem dX12_days_41 : decode cX12_days 41 = .ok (.iload_n 2, 1) := by decide +kernel
theorem dX12_days_42 : decode cX12_days 42 = .ok (.iload_n 1, 1) := by decide +kernel
theorem dX12_days_43 : decode cX12_days 43 = .ok (.if_icmp .ge 14, 3) := by decide +kernel
theorem dX12_days_46 : decode cX12_days 46 = .ok (.aload_n 0, 1) := by decide +kernel
theorem dX12_days_47 : decode cX12_days 47 = .ok (.iconst 0, 1) := by decide +kernel
theorem dX12_days_48 : decode cX12_days 48 = .ok (.invokevirtual 343, 3) := by decide +kernel
theorem dX12_days_51 : decode cX12_days 51 = .ok (.iinc 2 1, 3) := by decide +kernel
theorem dX12_days_54 : decode cX12_days 54 = .ok (.goto (-13), 3) := by decide +kernel
theorem dX12_days_57 : decode cX12_days 57 = .ok (.aload_n 0, 1) := by decide +kernel
theorem dX12_days_58 : decode cX12_days 58 = .ok (.getfield 75, 3) := by decide +kernel
theorem dX12_days_61 : decode cX12_days 61 = .ok (.iconst 0, 1) := by decide +kernel
theorem dX12_days_62 : decode cX12_days 62 = .ok (.iaload, 1) := by decide +kernel
theorem dX12_days_63 : decode cX12_days 63 = .ok (.ireturn, 1) := by decide +kernel
theorem dX12_leads_0 : decode cX12_leads 0 = .ok (.aload_n 0, 1) := by decide +kernel
theorem dX12_leads_1 : decode cX12_leads 1 = .ok (.getfield 20, 3) := by decide +kernel
theorem dX12_leads_4 : decode cX12_leads 4 = .ok (.iload_n 1, 1) := by decide +kernel
theorem dX12_leads_5 : decode cX12_leads 5 = .ok (.iaload, 1) := by decide +kernel
theorem dX12_leads_6 : decode cX12_leads 6 = .ok (.iload_n 2, 1) := by decide +kernel
theorem dX12_leads_7 : decode cX12_leads 7 = .ok (.if_icmp .ne 12, 3) := by decide +kernel
theorem dX12_leads_10 : decode cX12_leads 10 = .ok (.aload_n 0, 1) := by decide +kernel
theorem dX12_leads_11 : decode cX12_leads 11 = .ok (.getfield 23, 3) := by decide +kernel
theorem dX12_leads_14 : decode cX12_leads 14 = .ok (.iload_n 1, 1) := by decide +kernel
theorem dX12_leads_15 : decode cX12_leads 15 = .ok (.iaload, 1) := by decide +kernel
theorem dX12_leads_16 : decode cX12_leads 16 = .ok (.goto 23, 3) := by decide +kernel
theorem dX12_leads_19 : decode cX12_leads 19 = .ok (.aload_n 0, 1) := by decide +kernel
theorem dX12_leads_20 : decode cX12_leads 20 = .ok (.getfield 23, 3) := by decide +kernel
theorem dX12_leads_23 : decode cX12_leads 23 = .ok (.iload_n 1, 1) := by decide +kernel
theorem dX12_leads_24 : decode cX12_leads 24 = .ok (.iaload, 1) := by decide +kernel
theorem dX12_leads_25 : decode cX12_leads 25 = .ok (.iload_n 2, 1) := by decide +kernel
theorem dX12_leads_26 : decode cX12_leads 26 = .ok (.if_icmp .ne 12, 3) := by decide +kernel
theorem dX12_leads_29 : decode cX12_leads 29 = .ok (.aload_n 0, 1) := by decide +kernel
theorem dX12_leads_30 : decode cX12_leads 30 = .ok (.getfield 20, 3) := by decide +kernel
theorem dX12_leads_33 : decode cX12_leads 33 = .ok (.iload_n 1, 1) := by decide +kernel
theorem dX12_leads_34 : decode cX12_leads 34 = .ok (.iaload, 1) := by decide +kernel
theorem dX12_leads_35 : decode cX12_leads 35 = .ok (.goto 4, 3) := by decide +kernel
theorem dX12_leads_38 : decode cX12_leads 38 = .ok (.iconst (-1), 1) := by decide +kernel
theorem dX12_leads_39 : decode cX12_leads 39 = .ok (.ireturn, 1) := by decide +kernel
theorem dX12_send_0 : decode cX12_send 0 = .ok (.aload_n 0, 1) := by decide +kernel
theorem dX12_send_1 : decode cX12_send 1 = .ok (.iconst 0, 1) := by decide +kernel
theorem dX12_send_2 : decode cX12_send 2 = .ok (.putfield 117, 3) := by decide +kernel
theorem dX12_send_5 : decode cX12_send 5 = .ok (.aload_n 0, 1) := by decide +kernel
theorem dX12_send_6 : decode cX12_send 6 = .ok (.iload_n 1, 1) := by decide +kernel
theorem dX12_send_7 : decode cX12_send 7 = .ok (.invokevirtual 368, 3) := by decide +kernel
theorem dX12_send_10 : decode cX12_send 10 = .ok (.ifCond .eq 11, 3) := by decide +kernel
theorem dX12_send_13 : decode cX12_send 13 = .ok (.aload_n 0, 1) := by decide +kernel
theorem dX12_send_14 : decode cX12_send 14 = .ok (.iload_n 2, 1) := by decide +kernel
theorem dX12_send_15 : decode cX12_send 15 = .ok (.invokevirtual 377, 3) := by decide +kernel
theorem dX12_send_18 : decode cX12_send 18 = .ok (.ifCond .ne 5, 3) := by decide +kernel
theorem dX12_send_21 : decode cX12_send 21 = .ok (.iconst 0, 1) := by decide +kernel
theorem dX12_send_22 : decode cX12_send 22 = .ok (.ireturn, 1) := by decide +kernel
theorem dX12_send_23 : decode cX12_send 23 = .ok (.aload_n 0, 1) := by decide +kernel
theorem dX12_send_24 : decode cX12_send 24 = .ok (.iconst 0, 1) := by decide +kernel
theorem dX12_send_25 : decode cX12_send 25 = .ok (.iload_n 1, 1) := by decide +kernel
theorem dX12_send_26 : decode cX12_send 26 = .ok (.invokevirtual 308, 3) := by decide +kernel
theorem dX12_send_29 : decode cX12_send 29 = .ok (.ifCond .eq 21, 3) := by decide +kernel
theorem dX12_send_32 : decode cX12_send 32 = .ok (.aload_n 0, 1) := by decide +kernel
theorem dX12_send_33 : decode cX12_send 33 = .ok (.iload_n 2, 1) := by decide +kernel
theorem dX12_send_34 : decode cX12_send 34 = .ok (.aload_n 0, 1) := by decide +kernel
theorem dX12_send_35 : decode cX12_send 35 = .ok (.getfield 75, 3) := by decide +kernel
theorem dX12_send_38 : decode cX12_send 38 = .ok (.bipush 55, 2) := by decide +kernel
theorem dX12_send_40 : decode cX12_send 40 = .ok (.iload_n 1, 1) := by decide +kernel
theorem dX12_send_41 : decode cX12_send 41 = .ok (.iadd, 1) := by decide +kernel
theorem dX12_send_42 : decode cX12_send 42 = .ok (.iaload, 1) := by decide +kernel
theorem dX12_send_43 : decode cX12_send 43 = .ok (.invokevirtual 380, 3) := by decide +kernel
theorem dX12_send_46 : decode cX12_send 46 = .ok (.iconst (-1), 1) := by decide +kernel
theorem dX12_send_47 : decode cX12_send 47 = .ok (.if_icmp .ne 9, 3) := by decide +kernel
theorem dX12_send_50 : decode cX12_send 50 = .ok (.aload_n 0, 1) := by decide +kernel
theorem dX12_send_51 : decode cX12_send 51 = .ok (.iconst 1, 1) := by decide +kernel
theorem dX12_send_52 : decode cX12_send 52 = .ok (.invokevirtual 371, 3) := by decide +kernel
theorem dX12_send_55 : decode cX12_send 55 = .ok (.ireturn, 1) := by decide +kernel
theorem dX12_send_56 : decode cX12_send 56 = .ok (.aload_n 0, 1) := by decide +kernel
theorem dX12_send_57 : decode cX12_send 57 = .ok (.invokevirtual 374, 3) := by decide +kernel
theorem dX12_send_60 : decode cX12_send 60 = .ok (.aload_n 0, 1) := by decide +kernel
theorem dX12_send_61 : decode cX12_send 61 = .ok (.getfield 75, 3) := by decide +kernel
theorem dX12_send_64 : decode cX12_send 64 = .ok (.bipush 55, 2) := by decide +kernel
theorem dX12_send_66 : decode cX12_send 66 = .ok (.iload_n 1, 1) := by decide +kernel
theorem dX12_send_67 : decode cX12_send 67 = .ok (.iadd, 1) := by decide +kernel
theorem dX12_send_68 : decode cX12_send 68 = .ok (.aload_n 0, 1) := by decide +kernel
theorem dX12_send_69 : decode cX12_send 69 = .ok (.iload_n 2, 1) := by decide +kernel
theorem dX12_send_70 : decode cX12_send 70 = .ok (.aload_n 0, 1) := by decide +kernel
theorem dX12_send_71 : decode cX12_send 71 = .ok (.getfield 75, 3) := by decide +kernel
theorem dX12_send_74 : decode cX12_send 74 = .ok (.bipush 55, 2) := by decide +kernel
theorem dX12_send_76 : decode cX12_send 76 = .ok (.iload_n 1, 1) := by decide +kernel
theorem dX12_send_77 : decode cX12_send 77 = .ok (.iadd, 1) := by decide +kernel
theorem dX12_send_78 : decode cX12_send 78 = .ok (.iaload, 1) := by decide +kernel
theorem dX12_send_79 : decode cX12_send 79 = .ok (.invokevirtual 380, 3) := by decide +kernel
theorem dX12_send_82 : decode cX12_send 82 = .ok (.iastore, 1) := by decide +kernel
theorem dX12_send_83 : decode cX12_send 83 = .ok (.aload_n 0, 1) := by decide +kernel
theorem dX12_send_84 : decode cX12_send 84 = .ok (.getfield 75, 3) := by decide +kernel
theorem dX12_send_87 : decode cX12_send 87 = .ok (.bipush 65, 2) := by decide +kernel
theorem dX12_send_89 : decode cX12_send 89 = .ok (.iload_n 1, 1) := by decide +kernel
theorem dX12_send_90 : decode cX12_send 90 = .ok (.iadd, 1) := by decide +kernel
theorem dX12_send_91 : decode cX12_send 91 = .ok (.aload_n 0, 1) := by decide +kernel
theorem dX12_send_92 : decode cX12_send 92 = .ok (.getfield 26, 3) := by decide +kernel
theorem dX12_send_95 : decode cX12_send 95 = .ok (.iload_n 2, 1) := by decide +kernel
theorem dX12_send_96 : decode cX12_send 96 = .ok (.iaload, 1) := by decide +kernel
theorem dX12_send_97 : decode cX12_send 97 = .ok (.iastore, 1) := by decide +kernel
theorem dX12_send_98 : decode cX12_send 98 = .ok (.aload_n 0, 1) := by decide +kernel
theorem dX12_send_99 : decode cX12_send 99 = .ok (.getfield 75, 3) := by decide +kernel
theorem dX12_send_102 : decode cX12_send 102 = .ok (.bipush 75, 2) := by decide +kernel
theorem dX12_send_104 : decode cX12_send 104 = .ok (.iload_n 1, 1) := by decide +kernel
theorem dX12_send_105 : decode cX12_send 105 = .ok (.iadd, 1) := by decide +kernel
theorem dX12_send_106 : decode cX12_send 106 = .ok (.aload_n 0, 1) := by decide +kernel
theorem dX12_send_107 : decode cX12_send 107 = .ok (.getfield 29, 3) := by decide +kernel
theorem dX12_send_110 : decode cX12_send 110 = .ok (.iload_n 2, 1) := by decide +kernel
theorem dX12_send_111 : decode cX12_send 111 = .ok (.iaload, 1) := by decide +kernel
theorem dX12_send_112 : decode cX12_send 112 = .ok (.iastore, 1) := by decide +kernel
theorem dX12_send_113 : decode cX12_send 113 = .ok (.aload_n 0, 1) := by decide +kernel
theorem dX12_send_114 : decode cX12_send 114 = .ok (.getfield 75, 3) := by decide +kernel
theorem dX12_send_117 : decode cX12_send 117 = .ok (.bipush 55, 2) := by decide +kernel
theorem dX12_send_119 : decode cX12_send 119 = .ok (.iload_n 1, 1) := by decide +kernel
theorem dX12_send_120 : decode cX12_send 120 = .ok (.iadd, 1) := by decide +kernel
theorem dX12_send_121 : decode cX12_send 121 = .ok (.iaload, 1) := by decide +kernel
theorem dX12_send_122 : decode cX12_send 122 = .ok (.ireturn, 1) := by decide +kernel
theorem dX12_opens_0 : decode cX12_opens 0 = .ok (.iload_n 1, 1) := by decide +kernel
theorem dX12_opens_1 : decode cX12_opens 1 = .ok (.aload_n 0, 1) := by decide +kernel
theorem dX12_opens_2 : decode cX12_opens 2 = .ok (.getfield 75, 3) := by decide +kernel
theorem dX12_opens_5 : decode cX12_opens 5 = .ok (.iload_n 1, 1) := by decide +kernel
theorem dX12_opens_6 : decode cX12_opens 6 = .ok (.bipush 35, 2) := by decide +kernel
theorem dX12_opens_8 : decode cX12_opens 8 = .ok (.iadd, 1) := by decide +kernel
theorem dX12_opens_9 : decode cX12_opens 9 = .ok (.iload_n 2, 1) := by decide +kernel
theorem dX12_opens_10 : decode cX12_opens 10 = .ok (.iadd, 1) := by decide +kernel
theorem dX12_opens_11 : decode cX12_opens 11 = .ok (.iaload, 1) := by decide +kernel
theorem dX12_opens_12 : decode cX12_opens 12 = .ok (.iconst 1, 1) := by decide +kernel
theorem dX12_opens_13 : decode cX12_opens 13 = .ok (.if_icmp .ne 8, 3) := by decide +kernel
theorem dX12_opens_16 : decode cX12_opens 16 = .ok (.bipush 9, 2) := by decide +kernel
theorem dX12_opens_18 : decode cX12_opens 18 = .ok (.goto 4, 3) := by decide +kernel
theorem dX12_opens_21 : decode cX12_opens 21 = .ok (.iconst 1, 1) := by decide +kernel
theorem dX12_opens_22 : decode cX12_opens 22 = .ok (.iadd, 1) := by decide +kernel
theorem dX12_opens_23 : decode cX12_opens 23 = .ok (.aload_n 0, 1) := by decide +kernel
theorem dX12_opens_24 : decode cX12_opens 24 = .ok (.getfield 75, 3) := by decide +kernel
theorem dX12_opens_27 : decode cX12_opens 27 = .ok (.iload_n 1, 1) := by decide +kernel
theorem dX12_opens_28 : decode cX12_opens 28 = .ok (.bipush 55, 2) := by decide +kernel
theorem dX12_opens_30 : decode cX12_opens 30 = .ok (.iadd, 1) := by decide +kernel
theorem dX12_opens_31 : decode cX12_opens 31 = .ok (.iload_n 2, 1) := by decide +kernel
theorem dX12_opens_32 : decode cX12_opens 32 = .ok (.iadd, 1) := by decide +kernel
theorem dX12_opens_33 : decode cX12_opens 33 = .ok (.iaload, 1) := by decide +kernel
theorem dX12_opens_34 : decode cX12_opens 34 = .ok (.iadd, 1) := by decide +kernel
theorem dX12_opens_35 : decode cX12_opens 35 = .ok (.istore_n 3, 1) := by decide +kernel
theorem dX12_opens_36 : decode cX12_opens 36 = .ok (.aload_n 0, 1) := by decide +kernel
theorem dX12_opens_37 : decode cX12_opens 37 = .ok (.getfield 75, 3) := by decide +kernel
theorem dX12_opens_40 : decode cX12_opens 40 = .ok (.iload_n 3, 1) := by decide +kernel
theorem dX12_opens_41 : decode cX12_opens 41 = .ok (.aload_n 0, 1) := by decide +kernel
theorem dX12_opens_42 : decode cX12_opens 42 = .ok (.getfield 75, 3) := by decide +kernel
theorem dX12_opens_45 : decode cX12_opens 45 = .ok (.iload_n 3, 1) := by decide +kernel
theorem dX12_opens_46 : decode cX12_opens 46 = .ok (.iaload, 1) := by decide +kernel
theorem dX12_opens_47 : decode cX12_opens 47 = .ok (.aload_n 0, 1) := by decide +kernel
theorem dX12_opens_48 : decode cX12_opens 48 = .ok (.getfield 75, 3) := by decide +kernel
theorem dX12_opens_51 : decode cX12_opens 51 = .ok (.iload_n 1, 1) := by decide +kernel
theorem dX12_opens_52 : decode cX12_opens 52 = .ok (.bipush 25, 2) := by decide +kernel
theorem dX12_opens_54 : decode cX12_opens 54 = .ok (.iadd, 1) := by decide +kernel
theorem dX12_opens_55 : decode cX12_opens 55 = .ok (.iload_n 2, 1) := by decide +kernel
theorem dX12_opens_56 : decode cX12_opens 56 = .ok (.iadd, 1) := by decide +kernel
theorem dX12_opens_57 : decode cX12_opens 57 = .ok (.iaload, 1) := by decide +kernel
theorem dX12_opens_58 : decode cX12_opens 58 = .ok (.iadd, 1) := by decide +kernel
theorem dX12_opens_59 : decode cX12_opens 59 = .ok (.iconst 0, 1) := by decide +kernel
theorem dX12_opens_60 : decode cX12_opens 60 = .ok (.sipush 9999, 3) := by decide +kernel
